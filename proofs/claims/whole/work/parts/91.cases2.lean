set_option maxHeartbeats 4000000 in
set_option maxRecDepth 100000 in
theorem cs_plotOwner {p : Program} {l : Launch} {e : Env} {s : State} {m : MethodId} {args : Array Value} {below : List Frame} {meth : Method} {c : Code} {H : Heap} {locs : List Loc} {cells slots : Nat} {Q : State → Prop} {G : gG} {A : Nat → Prop} {b L i lq mq ol : Nat} {xs : Nat → Int32} {ls : Array Slot} (F : lwF p l s m args meth c G A b L xs) (hi : i + 5 ≤ L) (hc : cells + 4 ≤ 601024) (hs : slots + 528 ≤ 7293034) (hI : lwI s G A lq mq ol b i H locs ls)
    (kk : ∀ (H : Heap) (locs : List Loc) (ls : Array Slot), lwI s G A lq mq ol b i H locs ls → W p l e room_1 s m args below meth c H locs (cells + 4) (slots + 528) Q (F0 m 2516 ls [])) : W p l e room_1 s m args below meth c H locs cells slots Q (F0 m 1434 ls []) := by
  obtain ⟨F1, hZ, hX, hbl, hbA, hL, hl9⟩ := F
  obtain ⟨wv, vv, f, S, th, hC, hR, hSp, hP, hD, hS, hl⟩ := hI
  have hx := F1.1
  have hb := F1.2.1
  have hKK := F1.2.2.2.2.2.2.2.2.1
  obtain ⟨k, Z, hk3, hZs, ⟨rm, mc, ms, hb1, hw⟩, rm2, hb2, hm⟩ := P_plotOwner l G lq ol mq (f := f) hl9 (xs (i + 1)) hC hR hSp
  refine lv_aload_n hx hb dL_law_1434 rfl (lv_at hl 1 rfl) ?_
  refine lv_aload_n hx hb dL_law_1435 rfl (lv_at hl 0 rfl) ?_
  refine lv_iload hx hb dL_law_1436 (lv_at hl 4 rfl) ?_
  refine lv_iconst (v := nI 1) hx hb dL_law_1438 (by decide) ?_
  refine gIadd (a := i) (b := 1) hx hb dL_law_1439 ?_
  refine gSld hx hb hX hbl hbA hS (i + 1) (by omega) (by omega) dL_law_1440 ?_
  refine lv_aload_n hx hb dL_law_1441 rfl (lv_at hl 3 rfl) ?_
  refine gCi F1 (gRunSW (own := RL) (bytes := cL_plotOwner) (n := 3) (As := .ref lq :: ([.int (xs (i + 1))] ++ [.ref ol])) (rest := []) F1 hZ hS (hw H.size) gL_law_L_plotOwner rfl rfl hb1.1 hb1.2.1 (by decide +kernel) rfl ⟨by have h9 := hb1.2.2.2.2.1; show rm.frames + 1 ≤ 11; omega, by have h9 := hb1.2.2.2.2.2; show 8 + (4 + 11) + rm.locals ≤ 404; omega⟩ hP hD (lit := wv ++ [outc G ol f]) (wt := vv) (wc := wv ++ [outc G ol f]) (isC := List.range (wv ++ [outc G ol f]).length) (gRange _) (gRange_nd _) rfl hl.1 (Nat.le_of_ble_eq_true rfl) dL_law_1442 ⟨by have h9 := hb1.2.2.1; show cells + mc ≤ 601024; omega, by have h9 := hb1.2.2.2.1; show slots + ms ≤ 7293034; omega⟩) hP hD hS (lit := wv ++ [outc G ol f]) (wt := vv) (wc := wv ++ [outc G ol f]) (isC := List.range (wv ++ [outc G ol f]).length) (wr := []) (isR := []) (gRange _) rfl rfl (fun _ h_ => by cases h_) (fun r u H locs hp hP hD hS => ?_)
  obtain ⟨rfl, S2, v, hz, hC2, hv⟩ := hp
  have hP : va_P G.1 vwCl ((u.1 ++ [outc G ol u.2]) ++ vv) H := hP
  have hD : va_D A ((u.1 ++ [outc G ol u.2]) ++ vv) := hD
  refine lv_istore (lv' := [(5, .int (nI k)), (0, .ref b), (1, .ref lq), (2, .ref mq), (3, .ref ol), (4, .int (nI i))]) hx hb dL_law_1445 hl (by decide) rfl (fun ls hl => ?_)
  have hP := gPperm List.perm_append_comm hP
  have hD := gDperm List.perm_append_comm hD
  obtain ⟨fs2, hrf⟩ := rf_recv hR
  refine lv_aload_n hx hb dL_law_1447 rfl (lv_at hl 3 rfl) ?_
  refine lv_aload_n hx hb dL_law_1448 rfl (lv_at hl 1 rfl) ?_
  refine lv_iload hx hb dL_law_1449 (lv_at hl 5 rfl) ?_
  refine lv_iconst (v := nI 1) hx hb dL_law_1451 (by decide) ?_
  refine gIadd (a := i) (b := 1) hx hb dL_law_1452 ?_
  refine gSld hx hb hX hbl hbA hS (i + 1) (by omega) (by omega) dL_law_1453 ?_
  refine gCi F1 (gRunV (own := RL) (C := RX4) (ci := 4) (bytes := cX4_plotOwner) (n := 1) (As := [.int (xs (i + 1))]) (rest := []) F1 (hm H.size) gL_law_X4_plotOwner rfl rfl hb2.1 hb2.2.1 (by decide +kernel) rfl ⟨by have h9 := hb2.2.2.2.2.1; show rm2.frames + 1 ≤ 11; omega, by have h9 := hb2.2.2.2.2.2; show 8 + (2 + 11) + rm2.locals ≤ 404; omega⟩ hP hD (lit := vv) (wt := u.1 ++ [outc G ol u.2]) (wc := vv) (isC := List.range (vv).length) (gRange _) (gRange_nd _) rfl hrf rfl hl.1 (Nat.le_of_ble_eq_true rfl) dL_law_1454 ⟨by have h9 := hb1.2.2.1; show cells + mc + 0 ≤ 601024; omega, by have h9 := hb1.2.2.2.1; show slots + ms + 0 ≤ 7293034; omega⟩) hP hD hS (lit := vv) (wt := u.1 ++ [outc G ol u.2]) (wc := vv) (isC := List.range (vv).length) (wr := []) (isR := []) (gRange _) rfl rfl (fun _ h_ => by cases h_) (fun r2 u2 H locs hp2 hP hD hS => ?_)
  obtain ⟨hR2, hv2⟩ := hp2 S2 v hz
  have hP : va_P G.1 vwCl (u2 ++ (u.1 ++ [outc G ol u.2])) H := hP
  have hD : va_D A (u2 ++ (u.1 ++ [outc G ol u.2])) := hD
  refine lv_istore (lv' := [(6, .int r2), (5, .int (nI k)), (0, .ref b), (1, .ref lq), (2, .ref mq), (3, .ref ol), (4, .int (nI i))]) hx hb dL_law_1457 hl (by decide) rfl (fun ls hl => ?_)
  refine lv_aload_n hx hb dL_law_1459 rfl (lv_at hl 4 rfl) ?_
  obtain ⟨fs3, hrf3⟩ := rf_recv hR2
  refine gCi F1 (gRunV (own := RL) (C := RX4) (ci := 4) (bytes := cX4_thrown) (n := 0) (As := []) (rest := []) F1 (r_thrown l G mq hR2 (hZs S2 v hz) H.size) gL_law_X4_thrown rfl rfl rfl rfl (by decide +kernel) rfl ⟨Nat.le_of_ble_eq_true rfl, Nat.le_of_ble_eq_true rfl⟩ hP hD (lit := u2) (wt := u.1 ++ [outc G ol u.2]) (wc := u2) (isC := List.range (u2).length) (gRange _) (gRange_nd _) rfl hrf3 rfl hl.1 (Nat.le_of_ble_eq_true rfl) dL_law_1460 ⟨by have h9 := hb1.2.2.1; show cells + mc + 0 + 0 ≤ 601024; omega, by have h9 := hb1.2.2.2.1; show slots + ms + 0 + 0 ≤ 7293034; omega⟩) hP hD hS (lit := u2) (wt := u.1 ++ [outc G ol u.2]) (wc := u2) (isC := List.range (u2).length) (wr := []) (isR := []) (gRange _) rfl rfl (fun _ h_ => by cases h_) (fun r3 u3 H locs hp3 hP hD hS => ?_)
  obtain ⟨rfl, hR3⟩ := hp3
  have hP : va_P G.1 vwCl (u3 ++ (u.1 ++ [outc G ol u.2])) H := hP
  have hD : va_D A (u3 ++ (u.1 ++ [outc G ol u.2])) := hD
  refine lv_iload hx hb dL_law_1463 (lv_at hl 1 rfl) ?_
  refine gIcmp_eq (a := k) (b := k) (tgt := 1470) hx hb dL_law_1465 (by decide) (by omega) (by omega) (fun _ => ?_) (fun c9 => absurd rfl c9)
  refine lv_iload hx hb dL_law_1470 (lv_at hl 1 rfl) ?_
  have fin : W p l e room_1 s m args below meth c H locs (cells + mc + 0 + 0) (slots + ms + 0 + 0) Q (F0 m 1487 ls []) := by
    refine lv_goto (tgt := 2516) hx hb dL_law_1487 (by decide) ?_
    refine W.widen (k := cells + 4) (n := slots + 528) (by have h9 := hb1.2.2.1; omega) (by have h9 := hb1.2.2.2.1; omega) ?_
    exact kk H locs ls ⟨u.1, u3, u.2, S2, k, hC2, hR3, hZs S2 v hz, gPperm List.perm_append_comm hP, gDperm List.perm_append_comm hD, hS, lv_sub hl [2, 3, 4, 5, 6] rfl⟩
  refine gIf_ne (a := k) (tgt := 1487) hx hb dL_law_1472 (by decide) (by omega) (fun _ => fin) (fun c9 => ?_)
  refine lv_aload_n hx hb dL_law_1475 rfl (lv_at hl 5 rfl) ?_
  refine lv_iconst (v := nI 0) hx hb dL_law_1476 (by decide) ?_
  have hP3 : va_P G.1 vwCl ((u3 ++ u.1) ++ [outc G ol u.2]) H := by rw [List.append_assoc]; exact hP
  refine gLald hx hb hKK.1 hP3 dL_law_1477 ?_
  refine lv_iload hx hb dL_law_1478 (lv_at hl 0 rfl) ?_
  refine lv_i2l (v := r2.toInt64) hx hb dL_law_1480 rfl ?_
  refine W.lcmp hx hb dL_law_1481 ?_
  rw [hv c9, hv2 c9, lcmp_self]
  exact lv_if_eq (tgt := 1487) hx hb dL_law_1482 (by decide) (fun _ => fin) (fun c8 => absurd rfl c8)

set_option maxHeartbeats 4000000 in
set_option maxRecDepth 100000 in
theorem cs_plotX {p : Program} {l : Launch} {e : Env} {s : State} {m : MethodId} {args : Array Value} {below : List Frame} {meth : Method} {c : Code} {H : Heap} {locs : List Loc} {cells slots : Nat} {Q : State → Prop} {G : gG} {A : Nat → Prop} {b L i lq mq ol : Nat} {xs : Nat → Int32} {ls : Array Slot} (F : lwF p l s m args meth c G A b L xs) (hi : i + 5 ≤ L) (hc : cells + 4 ≤ 601024) (hs : slots + 528 ≤ 7293034) (hI : lwI s G A lq mq ol b i H locs ls)
    (kk : ∀ (H : Heap) (locs : List Loc) (ls : Array Slot), lwI s G A lq mq ol b i H locs ls → W p l e room_1 s m args below meth c H locs (cells + 4) (slots + 528) Q (F0 m 2516 ls [])) : W p l e room_1 s m args below meth c H locs cells slots Q (F0 m 1490 ls []) := by
  obtain ⟨F1, hZ, hX, hbl, hbA, hL, hl9⟩ := F
  obtain ⟨wv, vv, f, S, th, hC, hR, hSp, hP, hD, hS, hl⟩ := hI
  have hx := F1.1
  have hb := F1.2.1
  have hKK := F1.2.2.2.2.2.2.2.2.1
  obtain ⟨k, Z, hk3, hZs, ⟨rm, mc, ms, hb1, hw⟩, rm2, hb2, hm⟩ := P_plotX l G lq ol mq (f := f) hl9 (xs (i + 1)) hC hR hSp
  refine lv_aload_n hx hb dL_law_1490 rfl (lv_at hl 1 rfl) ?_
  refine lv_aload_n hx hb dL_law_1491 rfl (lv_at hl 0 rfl) ?_
  refine lv_iload hx hb dL_law_1492 (lv_at hl 4 rfl) ?_
  refine lv_iconst (v := nI 1) hx hb dL_law_1494 (by decide) ?_
  refine gIadd (a := i) (b := 1) hx hb dL_law_1495 ?_
  refine gSld hx hb hX hbl hbA hS (i + 1) (by omega) (by omega) dL_law_1496 ?_
  refine lv_aload_n hx hb dL_law_1497 rfl (lv_at hl 3 rfl) ?_
  refine gCi F1 (gRunSW (own := RL) (bytes := cL_plotX) (n := 3) (As := .ref lq :: ([.int (xs (i + 1))] ++ [.ref ol])) (rest := []) F1 hZ hS (hw H.size) gL_law_L_plotX rfl rfl hb1.1 hb1.2.1 (by decide +kernel) rfl ⟨by have h9 := hb1.2.2.2.2.1; show rm.frames + 1 ≤ 11; omega, by have h9 := hb1.2.2.2.2.2; show 8 + (4 + 11) + rm.locals ≤ 404; omega⟩ hP hD (lit := wv ++ [outc G ol f]) (wt := vv) (wc := wv ++ [outc G ol f]) (isC := List.range (wv ++ [outc G ol f]).length) (gRange _) (gRange_nd _) rfl hl.1 (Nat.le_of_ble_eq_true rfl) dL_law_1498 ⟨by have h9 := hb1.2.2.1; show cells + mc ≤ 601024; omega, by have h9 := hb1.2.2.2.1; show slots + ms ≤ 7293034; omega⟩) hP hD hS (lit := wv ++ [outc G ol f]) (wt := vv) (wc := wv ++ [outc G ol f]) (isC := List.range (wv ++ [outc G ol f]).length) (wr := []) (isR := []) (gRange _) rfl rfl (fun _ h_ => by cases h_) (fun r u H locs hp hP hD hS => ?_)
  obtain ⟨rfl, S2, v, hz, hC2, hv⟩ := hp
  have hP : va_P G.1 vwCl ((u.1 ++ [outc G ol u.2]) ++ vv) H := hP
  have hD : va_D A ((u.1 ++ [outc G ol u.2]) ++ vv) := hD
  refine lv_istore (lv' := [(5, .int (nI k)), (0, .ref b), (1, .ref lq), (2, .ref mq), (3, .ref ol), (4, .int (nI i))]) hx hb dL_law_1501 hl (by decide) rfl (fun ls hl => ?_)
  have hP := gPperm List.perm_append_comm hP
  have hD := gDperm List.perm_append_comm hD
  obtain ⟨fs2, hrf⟩ := rf_recv hR
  refine lv_aload_n hx hb dL_law_1503 rfl (lv_at hl 3 rfl) ?_
  refine lv_aload_n hx hb dL_law_1504 rfl (lv_at hl 1 rfl) ?_
  refine lv_iload hx hb dL_law_1505 (lv_at hl 5 rfl) ?_
  refine lv_iconst (v := nI 1) hx hb dL_law_1507 (by decide) ?_
  refine gIadd (a := i) (b := 1) hx hb dL_law_1508 ?_
  refine gSld hx hb hX hbl hbA hS (i + 1) (by omega) (by omega) dL_law_1509 ?_
  refine gCi F1 (gRunV (own := RL) (C := RX4) (ci := 4) (bytes := cX4_plotX) (n := 1) (As := [.int (xs (i + 1))]) (rest := []) F1 (hm H.size) gL_law_X4_plotX rfl rfl hb2.1 hb2.2.1 (by decide +kernel) rfl ⟨by have h9 := hb2.2.2.2.2.1; show rm2.frames + 1 ≤ 11; omega, by have h9 := hb2.2.2.2.2.2; show 8 + (2 + 11) + rm2.locals ≤ 404; omega⟩ hP hD (lit := vv) (wt := u.1 ++ [outc G ol u.2]) (wc := vv) (isC := List.range (vv).length) (gRange _) (gRange_nd _) rfl hrf rfl hl.1 (Nat.le_of_ble_eq_true rfl) dL_law_1510 ⟨by have h9 := hb1.2.2.1; show cells + mc + 0 ≤ 601024; omega, by have h9 := hb1.2.2.2.1; show slots + ms + 0 ≤ 7293034; omega⟩) hP hD hS (lit := vv) (wt := u.1 ++ [outc G ol u.2]) (wc := vv) (isC := List.range (vv).length) (wr := []) (isR := []) (gRange _) rfl rfl (fun _ h_ => by cases h_) (fun r2 u2 H locs hp2 hP hD hS => ?_)
  obtain ⟨hR2, hv2⟩ := hp2 S2 v hz
  have hP : va_P G.1 vwCl (u2 ++ (u.1 ++ [outc G ol u.2])) H := hP
  have hD : va_D A (u2 ++ (u.1 ++ [outc G ol u.2])) := hD
  refine lv_istore (lv' := [(6, .int r2), (5, .int (nI k)), (0, .ref b), (1, .ref lq), (2, .ref mq), (3, .ref ol), (4, .int (nI i))]) hx hb dL_law_1513 hl (by decide) rfl (fun ls hl => ?_)
  refine lv_aload_n hx hb dL_law_1515 rfl (lv_at hl 4 rfl) ?_
  obtain ⟨fs3, hrf3⟩ := rf_recv hR2
  refine gCi F1 (gRunV (own := RL) (C := RX4) (ci := 4) (bytes := cX4_thrown) (n := 0) (As := []) (rest := []) F1 (r_thrown l G mq hR2 (hZs S2 v hz) H.size) gL_law_X4_thrown rfl rfl rfl rfl (by decide +kernel) rfl ⟨Nat.le_of_ble_eq_true rfl, Nat.le_of_ble_eq_true rfl⟩ hP hD (lit := u2) (wt := u.1 ++ [outc G ol u.2]) (wc := u2) (isC := List.range (u2).length) (gRange _) (gRange_nd _) rfl hrf3 rfl hl.1 (Nat.le_of_ble_eq_true rfl) dL_law_1516 ⟨by have h9 := hb1.2.2.1; show cells + mc + 0 + 0 ≤ 601024; omega, by have h9 := hb1.2.2.2.1; show slots + ms + 0 + 0 ≤ 7293034; omega⟩) hP hD hS (lit := u2) (wt := u.1 ++ [outc G ol u.2]) (wc := u2) (isC := List.range (u2).length) (wr := []) (isR := []) (gRange _) rfl rfl (fun _ h_ => by cases h_) (fun r3 u3 H locs hp3 hP hD hS => ?_)
  obtain ⟨rfl, hR3⟩ := hp3
  have hP : va_P G.1 vwCl (u3 ++ (u.1 ++ [outc G ol u.2])) H := hP
  have hD : va_D A (u3 ++ (u.1 ++ [outc G ol u.2])) := hD
  refine lv_iload hx hb dL_law_1519 (lv_at hl 1 rfl) ?_
  refine gIcmp_eq (a := k) (b := k) (tgt := 1526) hx hb dL_law_1521 (by decide) (by omega) (by omega) (fun _ => ?_) (fun c9 => absurd rfl c9)
  refine lv_iload hx hb dL_law_1526 (lv_at hl 1 rfl) ?_
  have fin : W p l e room_1 s m args below meth c H locs (cells + mc + 0 + 0) (slots + ms + 0 + 0) Q (F0 m 1543 ls []) := by
    refine lv_goto (tgt := 2516) hx hb dL_law_1543 (by decide) ?_
    refine W.widen (k := cells + 4) (n := slots + 528) (by have h9 := hb1.2.2.1; omega) (by have h9 := hb1.2.2.2.1; omega) ?_
    exact kk H locs ls ⟨u.1, u3, u.2, S2, k, hC2, hR3, hZs S2 v hz, gPperm List.perm_append_comm hP, gDperm List.perm_append_comm hD, hS, lv_sub hl [2, 3, 4, 5, 6] rfl⟩
  refine gIf_ne (a := k) (tgt := 1543) hx hb dL_law_1528 (by decide) (by omega) (fun _ => fin) (fun c9 => ?_)
  refine lv_aload_n hx hb dL_law_1531 rfl (lv_at hl 5 rfl) ?_
  refine lv_iconst (v := nI 0) hx hb dL_law_1532 (by decide) ?_
  have hP3 : va_P G.1 vwCl ((u3 ++ u.1) ++ [outc G ol u.2]) H := by rw [List.append_assoc]; exact hP
  refine gLald hx hb hKK.1 hP3 dL_law_1533 ?_
  refine lv_iload hx hb dL_law_1534 (lv_at hl 0 rfl) ?_
  refine lv_i2l (v := r2.toInt64) hx hb dL_law_1536 rfl ?_
  refine W.lcmp hx hb dL_law_1537 ?_
  rw [hv c9, hv2 c9, lcmp_self]
  exact lv_if_eq (tgt := 1543) hx hb dL_law_1538 (by decide) (fun _ => fin) (fun c8 => absurd rfl c8)

set_option maxHeartbeats 4000000 in
set_option maxRecDepth 100000 in
theorem cs_plotY {p : Program} {l : Launch} {e : Env} {s : State} {m : MethodId} {args : Array Value} {below : List Frame} {meth : Method} {c : Code} {H : Heap} {locs : List Loc} {cells slots : Nat} {Q : State → Prop} {G : gG} {A : Nat → Prop} {b L i lq mq ol : Nat} {xs : Nat → Int32} {ls : Array Slot} (F : lwF p l s m args meth c G A b L xs) (hi : i + 5 ≤ L) (hc : cells + 4 ≤ 601024) (hs : slots + 528 ≤ 7293034) (hI : lwI s G A lq mq ol b i H locs ls)
    (kk : ∀ (H : Heap) (locs : List Loc) (ls : Array Slot), lwI s G A lq mq ol b i H locs ls → W p l e room_1 s m args below meth c H locs (cells + 4) (slots + 528) Q (F0 m 2516 ls [])) : W p l e room_1 s m args below meth c H locs cells slots Q (F0 m 1546 ls []) := by
  obtain ⟨F1, hZ, hX, hbl, hbA, hL, hl9⟩ := F
  obtain ⟨wv, vv, f, S, th, hC, hR, hSp, hP, hD, hS, hl⟩ := hI
  have hx := F1.1
  have hb := F1.2.1
  have hKK := F1.2.2.2.2.2.2.2.2.1
  obtain ⟨k, Z, hk3, hZs, ⟨rm, mc, ms, hb1, hw⟩, rm2, hb2, hm⟩ := P_plotY l G lq ol mq (f := f) hl9 (xs (i + 1)) hC hR hSp
  refine lv_aload_n hx hb dL_law_1546 rfl (lv_at hl 1 rfl) ?_
  refine lv_aload_n hx hb dL_law_1547 rfl (lv_at hl 0 rfl) ?_
  refine lv_iload hx hb dL_law_1548 (lv_at hl 4 rfl) ?_
  refine lv_iconst (v := nI 1) hx hb dL_law_1550 (by decide) ?_
  refine gIadd (a := i) (b := 1) hx hb dL_law_1551 ?_
  refine gSld hx hb hX hbl hbA hS (i + 1) (by omega) (by omega) dL_law_1552 ?_
  refine lv_aload_n hx hb dL_law_1553 rfl (lv_at hl 3 rfl) ?_
  refine gCi F1 (gRunSW (own := RL) (bytes := cL_plotY) (n := 3) (As := .ref lq :: ([.int (xs (i + 1))] ++ [.ref ol])) (rest := []) F1 hZ hS (hw H.size) gL_law_L_plotY rfl rfl hb1.1 hb1.2.1 (by decide +kernel) rfl ⟨by have h9 := hb1.2.2.2.2.1; show rm.frames + 1 ≤ 11; omega, by have h9 := hb1.2.2.2.2.2; show 8 + (4 + 11) + rm.locals ≤ 404; omega⟩ hP hD (lit := wv ++ [outc G ol f]) (wt := vv) (wc := wv ++ [outc G ol f]) (isC := List.range (wv ++ [outc G ol f]).length) (gRange _) (gRange_nd _) rfl hl.1 (Nat.le_of_ble_eq_true rfl) dL_law_1554 ⟨by have h9 := hb1.2.2.1; show cells + mc ≤ 601024; omega, by have h9 := hb1.2.2.2.1; show slots + ms ≤ 7293034; omega⟩) hP hD hS (lit := wv ++ [outc G ol f]) (wt := vv) (wc := wv ++ [outc G ol f]) (isC := List.range (wv ++ [outc G ol f]).length) (wr := []) (isR := []) (gRange _) rfl rfl (fun _ h_ => by cases h_) (fun r u H locs hp hP hD hS => ?_)
  obtain ⟨rfl, S2, v, hz, hC2, hv⟩ := hp
  have hP : va_P G.1 vwCl ((u.1 ++ [outc G ol u.2]) ++ vv) H := hP
  have hD : va_D A ((u.1 ++ [outc G ol u.2]) ++ vv) := hD
  refine lv_istore (lv' := [(5, .int (nI k)), (0, .ref b), (1, .ref lq), (2, .ref mq), (3, .ref ol), (4, .int (nI i))]) hx hb dL_law_1557 hl (by decide) rfl (fun ls hl => ?_)
  have hP := gPperm List.perm_append_comm hP
  have hD := gDperm List.perm_append_comm hD
  obtain ⟨fs2, hrf⟩ := rf_recv hR
  refine lv_aload_n hx hb dL_law_1559 rfl (lv_at hl 3 rfl) ?_
  refine lv_aload_n hx hb dL_law_1560 rfl (lv_at hl 1 rfl) ?_
  refine lv_iload hx hb dL_law_1561 (lv_at hl 5 rfl) ?_
  refine lv_iconst (v := nI 1) hx hb dL_law_1563 (by decide) ?_
  refine gIadd (a := i) (b := 1) hx hb dL_law_1564 ?_
  refine gSld hx hb hX hbl hbA hS (i + 1) (by omega) (by omega) dL_law_1565 ?_
  refine gCi F1 (gRunV (own := RL) (C := RX4) (ci := 4) (bytes := cX4_plotY) (n := 1) (As := [.int (xs (i + 1))]) (rest := []) F1 (hm H.size) gL_law_X4_plotY rfl rfl hb2.1 hb2.2.1 (by decide +kernel) rfl ⟨by have h9 := hb2.2.2.2.2.1; show rm2.frames + 1 ≤ 11; omega, by have h9 := hb2.2.2.2.2.2; show 8 + (2 + 11) + rm2.locals ≤ 404; omega⟩ hP hD (lit := vv) (wt := u.1 ++ [outc G ol u.2]) (wc := vv) (isC := List.range (vv).length) (gRange _) (gRange_nd _) rfl hrf rfl hl.1 (Nat.le_of_ble_eq_true rfl) dL_law_1566 ⟨by have h9 := hb1.2.2.1; show cells + mc + 0 ≤ 601024; omega, by have h9 := hb1.2.2.2.1; show slots + ms + 0 ≤ 7293034; omega⟩) hP hD hS (lit := vv) (wt := u.1 ++ [outc G ol u.2]) (wc := vv) (isC := List.range (vv).length) (wr := []) (isR := []) (gRange _) rfl rfl (fun _ h_ => by cases h_) (fun r2 u2 H locs hp2 hP hD hS => ?_)
  obtain ⟨hR2, hv2⟩ := hp2 S2 v hz
  have hP : va_P G.1 vwCl (u2 ++ (u.1 ++ [outc G ol u.2])) H := hP
  have hD : va_D A (u2 ++ (u.1 ++ [outc G ol u.2])) := hD
  refine lv_istore (lv' := [(6, .int r2), (5, .int (nI k)), (0, .ref b), (1, .ref lq), (2, .ref mq), (3, .ref ol), (4, .int (nI i))]) hx hb dL_law_1569 hl (by decide) rfl (fun ls hl => ?_)
  refine lv_aload_n hx hb dL_law_1571 rfl (lv_at hl 4 rfl) ?_
  obtain ⟨fs3, hrf3⟩ := rf_recv hR2
  refine gCi F1 (gRunV (own := RL) (C := RX4) (ci := 4) (bytes := cX4_thrown) (n := 0) (As := []) (rest := []) F1 (r_thrown l G mq hR2 (hZs S2 v hz) H.size) gL_law_X4_thrown rfl rfl rfl rfl (by decide +kernel) rfl ⟨Nat.le_of_ble_eq_true rfl, Nat.le_of_ble_eq_true rfl⟩ hP hD (lit := u2) (wt := u.1 ++ [outc G ol u.2]) (wc := u2) (isC := List.range (u2).length) (gRange _) (gRange_nd _) rfl hrf3 rfl hl.1 (Nat.le_of_ble_eq_true rfl) dL_law_1572 ⟨by have h9 := hb1.2.2.1; show cells + mc + 0 + 0 ≤ 601024; omega, by have h9 := hb1.2.2.2.1; show slots + ms + 0 + 0 ≤ 7293034; omega⟩) hP hD hS (lit := u2) (wt := u.1 ++ [outc G ol u.2]) (wc := u2) (isC := List.range (u2).length) (wr := []) (isR := []) (gRange _) rfl rfl (fun _ h_ => by cases h_) (fun r3 u3 H locs hp3 hP hD hS => ?_)
  obtain ⟨rfl, hR3⟩ := hp3
  have hP : va_P G.1 vwCl (u3 ++ (u.1 ++ [outc G ol u.2])) H := hP
  have hD : va_D A (u3 ++ (u.1 ++ [outc G ol u.2])) := hD
  refine lv_iload hx hb dL_law_1575 (lv_at hl 1 rfl) ?_
  refine gIcmp_eq (a := k) (b := k) (tgt := 1582) hx hb dL_law_1577 (by decide) (by omega) (by omega) (fun _ => ?_) (fun c9 => absurd rfl c9)
  refine lv_iload hx hb dL_law_1582 (lv_at hl 1 rfl) ?_
  have fin : W p l e room_1 s m args below meth c H locs (cells + mc + 0 + 0) (slots + ms + 0 + 0) Q (F0 m 1599 ls []) := by
    refine lv_goto (tgt := 2516) hx hb dL_law_1599 (by decide) ?_
    refine W.widen (k := cells + 4) (n := slots + 528) (by have h9 := hb1.2.2.1; omega) (by have h9 := hb1.2.2.2.1; omega) ?_
    exact kk H locs ls ⟨u.1, u3, u.2, S2, k, hC2, hR3, hZs S2 v hz, gPperm List.perm_append_comm hP, gDperm List.perm_append_comm hD, hS, lv_sub hl [2, 3, 4, 5, 6] rfl⟩
  refine gIf_ne (a := k) (tgt := 1599) hx hb dL_law_1584 (by decide) (by omega) (fun _ => fin) (fun c9 => ?_)
  refine lv_aload_n hx hb dL_law_1587 rfl (lv_at hl 5 rfl) ?_
  refine lv_iconst (v := nI 0) hx hb dL_law_1588 (by decide) ?_
  have hP3 : va_P G.1 vwCl ((u3 ++ u.1) ++ [outc G ol u.2]) H := by rw [List.append_assoc]; exact hP
  refine gLald hx hb hKK.1 hP3 dL_law_1589 ?_
  refine lv_iload hx hb dL_law_1590 (lv_at hl 0 rfl) ?_
  refine lv_i2l (v := r2.toInt64) hx hb dL_law_1592 rfl ?_
  refine W.lcmp hx hb dL_law_1593 ?_
  rw [hv c9, hv2 c9, lcmp_self]
  exact lv_if_eq (tgt := 1599) hx hb dL_law_1594 (by decide) (fun _ => fin) (fun c8 => absurd rfl c8)

set_option maxHeartbeats 4000000 in
set_option maxRecDepth 100000 in
theorem cs_plotSize {p : Program} {l : Launch} {e : Env} {s : State} {m : MethodId} {args : Array Value} {below : List Frame} {meth : Method} {c : Code} {H : Heap} {locs : List Loc} {cells slots : Nat} {Q : State → Prop} {G : gG} {A : Nat → Prop} {b L i lq mq ol : Nat} {xs : Nat → Int32} {ls : Array Slot} (F : lwF p l s m args meth c G A b L xs) (hi : i + 5 ≤ L) (hc : cells + 4 ≤ 601024) (hs : slots + 528 ≤ 7293034) (hI : lwI s G A lq mq ol b i H locs ls)
    (kk : ∀ (H : Heap) (locs : List Loc) (ls : Array Slot), lwI s G A lq mq ol b i H locs ls → W p l e room_1 s m args below meth c H locs (cells + 4) (slots + 528) Q (F0 m 2516 ls [])) : W p l e room_1 s m args below meth c H locs cells slots Q (F0 m 1602 ls []) := by
  obtain ⟨F1, hZ, hX, hbl, hbA, hL, hl9⟩ := F
  obtain ⟨wv, vv, f, S, th, hC, hR, hSp, hP, hD, hS, hl⟩ := hI
  have hx := F1.1
  have hb := F1.2.1
  have hKK := F1.2.2.2.2.2.2.2.2.1
  obtain ⟨k, Z, hk3, hZs, ⟨rm, mc, ms, hb1, hw⟩, rm2, hb2, hm⟩ := P_plotSize l G lq ol mq (f := f) hl9 (xs (i + 1)) hC hR hSp
  refine lv_aload_n hx hb dL_law_1602 rfl (lv_at hl 1 rfl) ?_
  refine lv_aload_n hx hb dL_law_1603 rfl (lv_at hl 0 rfl) ?_
  refine lv_iload hx hb dL_law_1604 (lv_at hl 4 rfl) ?_
  refine lv_iconst (v := nI 1) hx hb dL_law_1606 (by decide) ?_
  refine gIadd (a := i) (b := 1) hx hb dL_law_1607 ?_
  refine gSld hx hb hX hbl hbA hS (i + 1) (by omega) (by omega) dL_law_1608 ?_
  refine lv_aload_n hx hb dL_law_1609 rfl (lv_at hl 3 rfl) ?_
  refine gCi F1 (gRunSW (own := RL) (bytes := cL_plotSize) (n := 3) (As := .ref lq :: ([.int (xs (i + 1))] ++ [.ref ol])) (rest := []) F1 hZ hS (hw H.size) gL_law_L_plotSize rfl rfl hb1.1 hb1.2.1 (by decide +kernel) rfl ⟨by have h9 := hb1.2.2.2.2.1; show rm.frames + 1 ≤ 11; omega, by have h9 := hb1.2.2.2.2.2; show 8 + (4 + 11) + rm.locals ≤ 404; omega⟩ hP hD (lit := wv ++ [outc G ol f]) (wt := vv) (wc := wv ++ [outc G ol f]) (isC := List.range (wv ++ [outc G ol f]).length) (gRange _) (gRange_nd _) rfl hl.1 (Nat.le_of_ble_eq_true rfl) dL_law_1610 ⟨by have h9 := hb1.2.2.1; show cells + mc ≤ 601024; omega, by have h9 := hb1.2.2.2.1; show slots + ms ≤ 7293034; omega⟩) hP hD hS (lit := wv ++ [outc G ol f]) (wt := vv) (wc := wv ++ [outc G ol f]) (isC := List.range (wv ++ [outc G ol f]).length) (wr := []) (isR := []) (gRange _) rfl rfl (fun _ h_ => by cases h_) (fun r u H locs hp hP hD hS => ?_)
  obtain ⟨rfl, S2, v, hz, hC2, hv⟩ := hp
  have hP : va_P G.1 vwCl ((u.1 ++ [outc G ol u.2]) ++ vv) H := hP
  have hD : va_D A ((u.1 ++ [outc G ol u.2]) ++ vv) := hD
  refine lv_istore (lv' := [(5, .int (nI k)), (0, .ref b), (1, .ref lq), (2, .ref mq), (3, .ref ol), (4, .int (nI i))]) hx hb dL_law_1613 hl (by decide) rfl (fun ls hl => ?_)
  have hP := gPperm List.perm_append_comm hP
  have hD := gDperm List.perm_append_comm hD
  obtain ⟨fs2, hrf⟩ := rf_recv hR
  refine lv_aload_n hx hb dL_law_1615 rfl (lv_at hl 3 rfl) ?_
  refine lv_aload_n hx hb dL_law_1616 rfl (lv_at hl 1 rfl) ?_
  refine lv_iload hx hb dL_law_1617 (lv_at hl 5 rfl) ?_
  refine lv_iconst (v := nI 1) hx hb dL_law_1619 (by decide) ?_
  refine gIadd (a := i) (b := 1) hx hb dL_law_1620 ?_
  refine gSld hx hb hX hbl hbA hS (i + 1) (by omega) (by omega) dL_law_1621 ?_
  refine gCi F1 (gRunV (own := RL) (C := RX4) (ci := 4) (bytes := cX4_plotSize) (n := 1) (As := [.int (xs (i + 1))]) (rest := []) F1 (hm H.size) gL_law_X4_plotSize rfl rfl hb2.1 hb2.2.1 (by decide +kernel) rfl ⟨by have h9 := hb2.2.2.2.2.1; show rm2.frames + 1 ≤ 11; omega, by have h9 := hb2.2.2.2.2.2; show 8 + (2 + 11) + rm2.locals ≤ 404; omega⟩ hP hD (lit := vv) (wt := u.1 ++ [outc G ol u.2]) (wc := vv) (isC := List.range (vv).length) (gRange _) (gRange_nd _) rfl hrf rfl hl.1 (Nat.le_of_ble_eq_true rfl) dL_law_1622 ⟨by have h9 := hb1.2.2.1; show cells + mc + 0 ≤ 601024; omega, by have h9 := hb1.2.2.2.1; show slots + ms + 0 ≤ 7293034; omega⟩) hP hD hS (lit := vv) (wt := u.1 ++ [outc G ol u.2]) (wc := vv) (isC := List.range (vv).length) (wr := []) (isR := []) (gRange _) rfl rfl (fun _ h_ => by cases h_) (fun r2 u2 H locs hp2 hP hD hS => ?_)
  obtain ⟨hR2, hv2⟩ := hp2 S2 v hz
  have hP : va_P G.1 vwCl (u2 ++ (u.1 ++ [outc G ol u.2])) H := hP
  have hD : va_D A (u2 ++ (u.1 ++ [outc G ol u.2])) := hD
  refine lv_istore (lv' := [(6, .int r2), (5, .int (nI k)), (0, .ref b), (1, .ref lq), (2, .ref mq), (3, .ref ol), (4, .int (nI i))]) hx hb dL_law_1625 hl (by decide) rfl (fun ls hl => ?_)
  refine lv_aload_n hx hb dL_law_1627 rfl (lv_at hl 4 rfl) ?_
  obtain ⟨fs3, hrf3⟩ := rf_recv hR2
  refine gCi F1 (gRunV (own := RL) (C := RX4) (ci := 4) (bytes := cX4_thrown) (n := 0) (As := []) (rest := []) F1 (r_thrown l G mq hR2 (hZs S2 v hz) H.size) gL_law_X4_thrown rfl rfl rfl rfl (by decide +kernel) rfl ⟨Nat.le_of_ble_eq_true rfl, Nat.le_of_ble_eq_true rfl⟩ hP hD (lit := u2) (wt := u.1 ++ [outc G ol u.2]) (wc := u2) (isC := List.range (u2).length) (gRange _) (gRange_nd _) rfl hrf3 rfl hl.1 (Nat.le_of_ble_eq_true rfl) dL_law_1628 ⟨by have h9 := hb1.2.2.1; show cells + mc + 0 + 0 ≤ 601024; omega, by have h9 := hb1.2.2.2.1; show slots + ms + 0 + 0 ≤ 7293034; omega⟩) hP hD hS (lit := u2) (wt := u.1 ++ [outc G ol u.2]) (wc := u2) (isC := List.range (u2).length) (wr := []) (isR := []) (gRange _) rfl rfl (fun _ h_ => by cases h_) (fun r3 u3 H locs hp3 hP hD hS => ?_)
  obtain ⟨rfl, hR3⟩ := hp3
  have hP : va_P G.1 vwCl (u3 ++ (u.1 ++ [outc G ol u.2])) H := hP
  have hD : va_D A (u3 ++ (u.1 ++ [outc G ol u.2])) := hD
  refine lv_iload hx hb dL_law_1631 (lv_at hl 1 rfl) ?_
  refine gIcmp_eq (a := k) (b := k) (tgt := 1638) hx hb dL_law_1633 (by decide) (by omega) (by omega) (fun _ => ?_) (fun c9 => absurd rfl c9)
  refine lv_iload hx hb dL_law_1638 (lv_at hl 1 rfl) ?_
  have fin : W p l e room_1 s m args below meth c H locs (cells + mc + 0 + 0) (slots + ms + 0 + 0) Q (F0 m 1655 ls []) := by
    refine lv_goto (tgt := 2516) hx hb dL_law_1655 (by decide) ?_
    refine W.widen (k := cells + 4) (n := slots + 528) (by have h9 := hb1.2.2.1; omega) (by have h9 := hb1.2.2.2.1; omega) ?_
    exact kk H locs ls ⟨u.1, u3, u.2, S2, k, hC2, hR3, hZs S2 v hz, gPperm List.perm_append_comm hP, gDperm List.perm_append_comm hD, hS, lv_sub hl [2, 3, 4, 5, 6] rfl⟩
  refine gIf_ne (a := k) (tgt := 1655) hx hb dL_law_1640 (by decide) (by omega) (fun _ => fin) (fun c9 => ?_)
  refine lv_aload_n hx hb dL_law_1643 rfl (lv_at hl 5 rfl) ?_
  refine lv_iconst (v := nI 0) hx hb dL_law_1644 (by decide) ?_
  have hP3 : va_P G.1 vwCl ((u3 ++ u.1) ++ [outc G ol u.2]) H := by rw [List.append_assoc]; exact hP
  refine gLald hx hb hKK.1 hP3 dL_law_1645 ?_
  refine lv_iload hx hb dL_law_1646 (lv_at hl 0 rfl) ?_
  refine lv_i2l (v := r2.toInt64) hx hb dL_law_1648 rfl ?_
  refine W.lcmp hx hb dL_law_1649 ?_
  rw [hv c9, hv2 c9, lcmp_self]
  exact lv_if_eq (tgt := 1655) hx hb dL_law_1650 (by decide) (fun _ => fin) (fun c8 => absurd rfl c8)

set_option maxHeartbeats 4000000 in
set_option maxRecDepth 100000 in
theorem cs_plotsOf {p : Program} {l : Launch} {e : Env} {s : State} {m : MethodId} {args : Array Value} {below : List Frame} {meth : Method} {c : Code} {H : Heap} {locs : List Loc} {cells slots : Nat} {Q : State → Prop} {G : gG} {A : Nat → Prop} {b L i lq mq ol : Nat} {xs : Nat → Int32} {ls : Array Slot} (F : lwF p l s m args meth c G A b L xs) (hi : i + 5 ≤ L) (hc : cells + 4 ≤ 601024) (hs : slots + 528 ≤ 7293034) (hI : lwI s G A lq mq ol b i H locs ls)
    (kk : ∀ (H : Heap) (locs : List Loc) (ls : Array Slot), lwI s G A lq mq ol b i H locs ls → W p l e room_1 s m args below meth c H locs (cells + 4) (slots + 528) Q (F0 m 2516 ls [])) : W p l e room_1 s m args below meth c H locs cells slots Q (F0 m 1658 ls []) := by
  obtain ⟨F1, hZ, hX, hbl, hbA, hL, hl9⟩ := F
  obtain ⟨wv, vv, f, S, th, hC, hR, hSp, hP, hD, hS, hl⟩ := hI
  have hx := F1.1
  have hb := F1.2.1
  have hKK := F1.2.2.2.2.2.2.2.2.1
  obtain ⟨k, Z, hk3, hZs, ⟨rm, mc, ms, hb1, hw⟩, rm2, hb2, hm⟩ := P_plotsOf l G lq ol mq (f := f) hl9 (xs (i + 1)) hC hR hSp
  refine lv_aload_n hx hb dL_law_1658 rfl (lv_at hl 1 rfl) ?_
  refine lv_aload_n hx hb dL_law_1659 rfl (lv_at hl 0 rfl) ?_
  refine lv_iload hx hb dL_law_1660 (lv_at hl 4 rfl) ?_
  refine lv_iconst (v := nI 1) hx hb dL_law_1662 (by decide) ?_
  refine gIadd (a := i) (b := 1) hx hb dL_law_1663 ?_
  refine gSld hx hb hX hbl hbA hS (i + 1) (by omega) (by omega) dL_law_1664 ?_
  refine lv_aload_n hx hb dL_law_1665 rfl (lv_at hl 3 rfl) ?_
  refine gCi F1 (gRunSW (own := RL) (bytes := cL_plotsOf) (n := 3) (As := .ref lq :: ([.int (xs (i + 1))] ++ [.ref ol])) (rest := []) F1 hZ hS (hw H.size) gL_law_L_plotsOf rfl rfl hb1.1 hb1.2.1 (by decide +kernel) rfl ⟨by have h9 := hb1.2.2.2.2.1; show rm.frames + 1 ≤ 11; omega, by have h9 := hb1.2.2.2.2.2; show 8 + (4 + 11) + rm.locals ≤ 404; omega⟩ hP hD (lit := wv ++ [outc G ol f]) (wt := vv) (wc := wv ++ [outc G ol f]) (isC := List.range (wv ++ [outc G ol f]).length) (gRange _) (gRange_nd _) rfl hl.1 (Nat.le_of_ble_eq_true rfl) dL_law_1666 ⟨by have h9 := hb1.2.2.1; show cells + mc ≤ 601024; omega, by have h9 := hb1.2.2.2.1; show slots + ms ≤ 7293034; omega⟩) hP hD hS (lit := wv ++ [outc G ol f]) (wt := vv) (wc := wv ++ [outc G ol f]) (isC := List.range (wv ++ [outc G ol f]).length) (wr := []) (isR := []) (gRange _) rfl rfl (fun _ h_ => by cases h_) (fun r u H locs hp hP hD hS => ?_)
  obtain ⟨rfl, S2, v, hz, hC2, hv⟩ := hp
  have hP : va_P G.1 vwCl ((u.1 ++ [outc G ol u.2]) ++ vv) H := hP
  have hD : va_D A ((u.1 ++ [outc G ol u.2]) ++ vv) := hD
  refine lv_istore (lv' := [(5, .int (nI k)), (0, .ref b), (1, .ref lq), (2, .ref mq), (3, .ref ol), (4, .int (nI i))]) hx hb dL_law_1669 hl (by decide) rfl (fun ls hl => ?_)
  have hP := gPperm List.perm_append_comm hP
  have hD := gDperm List.perm_append_comm hD
  obtain ⟨fs2, hrf⟩ := rf_recv hR
  refine lv_aload_n hx hb dL_law_1671 rfl (lv_at hl 3 rfl) ?_
  refine lv_aload_n hx hb dL_law_1672 rfl (lv_at hl 1 rfl) ?_
  refine lv_iload hx hb dL_law_1673 (lv_at hl 5 rfl) ?_
  refine lv_iconst (v := nI 1) hx hb dL_law_1675 (by decide) ?_
  refine gIadd (a := i) (b := 1) hx hb dL_law_1676 ?_
  refine gSld hx hb hX hbl hbA hS (i + 1) (by omega) (by omega) dL_law_1677 ?_
  refine gCi F1 (gRunV (own := RL) (C := RX4) (ci := 4) (bytes := cX4_plotsOf) (n := 1) (As := [.int (xs (i + 1))]) (rest := []) F1 (hm H.size) gL_law_X4_plotsOf rfl rfl hb2.1 hb2.2.1 (by decide +kernel) rfl ⟨by have h9 := hb2.2.2.2.2.1; show rm2.frames + 1 ≤ 11; omega, by have h9 := hb2.2.2.2.2.2; show 8 + (2 + 11) + rm2.locals ≤ 404; omega⟩ hP hD (lit := vv) (wt := u.1 ++ [outc G ol u.2]) (wc := vv) (isC := List.range (vv).length) (gRange _) (gRange_nd _) rfl hrf rfl hl.1 (Nat.le_of_ble_eq_true rfl) dL_law_1678 ⟨by have h9 := hb1.2.2.1; show cells + mc + 0 ≤ 601024; omega, by have h9 := hb1.2.2.2.1; show slots + ms + 0 ≤ 7293034; omega⟩) hP hD hS (lit := vv) (wt := u.1 ++ [outc G ol u.2]) (wc := vv) (isC := List.range (vv).length) (wr := []) (isR := []) (gRange _) rfl rfl (fun _ h_ => by cases h_) (fun r2 u2 H locs hp2 hP hD hS => ?_)
  obtain ⟨hR2, hv2⟩ := hp2 S2 v hz
  have hP : va_P G.1 vwCl (u2 ++ (u.1 ++ [outc G ol u.2])) H := hP
  have hD : va_D A (u2 ++ (u.1 ++ [outc G ol u.2])) := hD
  refine lv_istore (lv' := [(6, .int r2), (5, .int (nI k)), (0, .ref b), (1, .ref lq), (2, .ref mq), (3, .ref ol), (4, .int (nI i))]) hx hb dL_law_1681 hl (by decide) rfl (fun ls hl => ?_)
  refine lv_aload_n hx hb dL_law_1683 rfl (lv_at hl 4 rfl) ?_
  obtain ⟨fs3, hrf3⟩ := rf_recv hR2
  refine gCi F1 (gRunV (own := RL) (C := RX4) (ci := 4) (bytes := cX4_thrown) (n := 0) (As := []) (rest := []) F1 (r_thrown l G mq hR2 (hZs S2 v hz) H.size) gL_law_X4_thrown rfl rfl rfl rfl (by decide +kernel) rfl ⟨Nat.le_of_ble_eq_true rfl, Nat.le_of_ble_eq_true rfl⟩ hP hD (lit := u2) (wt := u.1 ++ [outc G ol u.2]) (wc := u2) (isC := List.range (u2).length) (gRange _) (gRange_nd _) rfl hrf3 rfl hl.1 (Nat.le_of_ble_eq_true rfl) dL_law_1684 ⟨by have h9 := hb1.2.2.1; show cells + mc + 0 + 0 ≤ 601024; omega, by have h9 := hb1.2.2.2.1; show slots + ms + 0 + 0 ≤ 7293034; omega⟩) hP hD hS (lit := u2) (wt := u.1 ++ [outc G ol u.2]) (wc := u2) (isC := List.range (u2).length) (wr := []) (isR := []) (gRange _) rfl rfl (fun _ h_ => by cases h_) (fun r3 u3 H locs hp3 hP hD hS => ?_)
  obtain ⟨rfl, hR3⟩ := hp3
  have hP : va_P G.1 vwCl (u3 ++ (u.1 ++ [outc G ol u.2])) H := hP
  have hD : va_D A (u3 ++ (u.1 ++ [outc G ol u.2])) := hD
  refine lv_iload hx hb dL_law_1687 (lv_at hl 1 rfl) ?_
  refine gIcmp_eq (a := k) (b := k) (tgt := 1694) hx hb dL_law_1689 (by decide) (by omega) (by omega) (fun _ => ?_) (fun c9 => absurd rfl c9)
  refine lv_iload hx hb dL_law_1694 (lv_at hl 1 rfl) ?_
  have fin : W p l e room_1 s m args below meth c H locs (cells + mc + 0 + 0) (slots + ms + 0 + 0) Q (F0 m 1711 ls []) := by
    refine lv_goto (tgt := 2516) hx hb dL_law_1711 (by decide) ?_
    refine W.widen (k := cells + 4) (n := slots + 528) (by have h9 := hb1.2.2.1; omega) (by have h9 := hb1.2.2.2.1; omega) ?_
    exact kk H locs ls ⟨u.1, u3, u.2, S2, k, hC2, hR3, hZs S2 v hz, gPperm List.perm_append_comm hP, gDperm List.perm_append_comm hD, hS, lv_sub hl [2, 3, 4, 5, 6] rfl⟩
  refine gIf_ne (a := k) (tgt := 1711) hx hb dL_law_1696 (by decide) (by omega) (fun _ => fin) (fun c9 => ?_)
  refine lv_aload_n hx hb dL_law_1699 rfl (lv_at hl 5 rfl) ?_
  refine lv_iconst (v := nI 0) hx hb dL_law_1700 (by decide) ?_
  have hP3 : va_P G.1 vwCl ((u3 ++ u.1) ++ [outc G ol u.2]) H := by rw [List.append_assoc]; exact hP
  refine gLald hx hb hKK.1 hP3 dL_law_1701 ?_
  refine lv_iload hx hb dL_law_1702 (lv_at hl 0 rfl) ?_
  refine lv_i2l (v := r2.toInt64) hx hb dL_law_1704 rfl ?_
  refine W.lcmp hx hb dL_law_1705 ?_
  rw [hv c9, hv2 c9, lcmp_self]
  exact lv_if_eq (tgt := 1711) hx hb dL_law_1706 (by decide) (fun _ => fin) (fun c8 => absurd rfl c8)

set_option maxHeartbeats 4000000 in
set_option maxRecDepth 100000 in
theorem cs_areaByPlots {p : Program} {l : Launch} {e : Env} {s : State} {m : MethodId} {args : Array Value} {below : List Frame} {meth : Method} {c : Code} {H : Heap} {locs : List Loc} {cells slots : Nat} {Q : State → Prop} {G : gG} {A : Nat → Prop} {b L i lq mq ol : Nat} {xs : Nat → Int32} {ls : Array Slot} (F : lwF p l s m args meth c G A b L xs) (hi : i + 5 ≤ L) (hc : cells + 4 ≤ 601024) (hs : slots + 528 ≤ 7293034) (hI : lwI s G A lq mq ol b i H locs ls)
    (kk : ∀ (H : Heap) (locs : List Loc) (ls : Array Slot), lwI s G A lq mq ol b i H locs ls → W p l e room_1 s m args below meth c H locs (cells + 4) (slots + 528) Q (F0 m 2516 ls [])) : W p l e room_1 s m args below meth c H locs cells slots Q (F0 m 1714 ls []) := by
  obtain ⟨F1, hZ, hX, hbl, hbA, hL, hl9⟩ := F
  obtain ⟨wv, vv, f, S, th, hC, hR, hSp, hP, hD, hS, hl⟩ := hI
  have hx := F1.1
  have hb := F1.2.1
  have hKK := F1.2.2.2.2.2.2.2.2.1
  obtain ⟨k, Z, hk3, hZs, ⟨rm, mc, ms, hb1, hw⟩, rm2, hb2, hm⟩ := P_areaByPlots l G lq ol mq (f := f) hl9 (xs (i + 1)) hC hR hSp
  refine lv_aload_n hx hb dL_law_1714 rfl (lv_at hl 1 rfl) ?_
  refine lv_aload_n hx hb dL_law_1715 rfl (lv_at hl 0 rfl) ?_
  refine lv_iload hx hb dL_law_1716 (lv_at hl 4 rfl) ?_
  refine lv_iconst (v := nI 1) hx hb dL_law_1718 (by decide) ?_
  refine gIadd (a := i) (b := 1) hx hb dL_law_1719 ?_
  refine gSld hx hb hX hbl hbA hS (i + 1) (by omega) (by omega) dL_law_1720 ?_
  refine lv_aload_n hx hb dL_law_1721 rfl (lv_at hl 3 rfl) ?_
  refine gCi F1 (gRunSW (own := RL) (bytes := cL_areaByPlots) (n := 3) (As := .ref lq :: ([.int (xs (i + 1))] ++ [.ref ol])) (rest := []) F1 hZ hS (hw H.size) gL_law_L_areaByPlots rfl rfl hb1.1 hb1.2.1 (by decide +kernel) rfl ⟨by have h9 := hb1.2.2.2.2.1; show rm.frames + 1 ≤ 11; omega, by have h9 := hb1.2.2.2.2.2; show 8 + (4 + 11) + rm.locals ≤ 404; omega⟩ hP hD (lit := wv ++ [outc G ol f]) (wt := vv) (wc := wv ++ [outc G ol f]) (isC := List.range (wv ++ [outc G ol f]).length) (gRange _) (gRange_nd _) rfl hl.1 (Nat.le_of_ble_eq_true rfl) dL_law_1722 ⟨by have h9 := hb1.2.2.1; show cells + mc ≤ 601024; omega, by have h9 := hb1.2.2.2.1; show slots + ms ≤ 7293034; omega⟩) hP hD hS (lit := wv ++ [outc G ol f]) (wt := vv) (wc := wv ++ [outc G ol f]) (isC := List.range (wv ++ [outc G ol f]).length) (wr := []) (isR := []) (gRange _) rfl rfl (fun _ h_ => by cases h_) (fun r u H locs hp hP hD hS => ?_)
  obtain ⟨rfl, S2, v, hz, hC2, hv⟩ := hp
  have hP : va_P G.1 vwCl ((u.1 ++ [outc G ol u.2]) ++ vv) H := hP
  have hD : va_D A ((u.1 ++ [outc G ol u.2]) ++ vv) := hD
  refine lv_istore (lv' := [(5, .int (nI k)), (0, .ref b), (1, .ref lq), (2, .ref mq), (3, .ref ol), (4, .int (nI i))]) hx hb dL_law_1725 hl (by decide) rfl (fun ls hl => ?_)
  have hP := gPperm List.perm_append_comm hP
  have hD := gDperm List.perm_append_comm hD
  obtain ⟨fs2, hrf⟩ := rf_recv hR
  refine lv_aload_n hx hb dL_law_1727 rfl (lv_at hl 3 rfl) ?_
  refine lv_aload_n hx hb dL_law_1728 rfl (lv_at hl 1 rfl) ?_
  refine lv_iload hx hb dL_law_1729 (lv_at hl 5 rfl) ?_
  refine lv_iconst (v := nI 1) hx hb dL_law_1731 (by decide) ?_
  refine gIadd (a := i) (b := 1) hx hb dL_law_1732 ?_
  refine gSld hx hb hX hbl hbA hS (i + 1) (by omega) (by omega) dL_law_1733 ?_
  refine gCi F1 (gRunV (own := RL) (C := RX4) (ci := 4) (bytes := cX4_areaByPlots) (n := 1) (As := [.int (xs (i + 1))]) (rest := []) F1 (hm H.size) gL_law_X4_areaByPlots rfl rfl hb2.1 hb2.2.1 (by decide +kernel) rfl ⟨by have h9 := hb2.2.2.2.2.1; show rm2.frames + 1 ≤ 11; omega, by have h9 := hb2.2.2.2.2.2; show 8 + (2 + 11) + rm2.locals ≤ 404; omega⟩ hP hD (lit := vv) (wt := u.1 ++ [outc G ol u.2]) (wc := vv) (isC := List.range (vv).length) (gRange _) (gRange_nd _) rfl hrf rfl hl.1 (Nat.le_of_ble_eq_true rfl) dL_law_1734 ⟨by have h9 := hb1.2.2.1; show cells + mc + 0 ≤ 601024; omega, by have h9 := hb1.2.2.2.1; show slots + ms + 0 ≤ 7293034; omega⟩) hP hD hS (lit := vv) (wt := u.1 ++ [outc G ol u.2]) (wc := vv) (isC := List.range (vv).length) (wr := []) (isR := []) (gRange _) rfl rfl (fun _ h_ => by cases h_) (fun r2 u2 H locs hp2 hP hD hS => ?_)
  obtain ⟨hR2, hv2⟩ := hp2 S2 v hz
  have hP : va_P G.1 vwCl (u2 ++ (u.1 ++ [outc G ol u.2])) H := hP
  have hD : va_D A (u2 ++ (u.1 ++ [outc G ol u.2])) := hD
  refine lv_istore (lv' := [(6, .int r2), (5, .int (nI k)), (0, .ref b), (1, .ref lq), (2, .ref mq), (3, .ref ol), (4, .int (nI i))]) hx hb dL_law_1737 hl (by decide) rfl (fun ls hl => ?_)
  refine lv_aload_n hx hb dL_law_1739 rfl (lv_at hl 4 rfl) ?_
  obtain ⟨fs3, hrf3⟩ := rf_recv hR2
  refine gCi F1 (gRunV (own := RL) (C := RX4) (ci := 4) (bytes := cX4_thrown) (n := 0) (As := []) (rest := []) F1 (r_thrown l G mq hR2 (hZs S2 v hz) H.size) gL_law_X4_thrown rfl rfl rfl rfl (by decide +kernel) rfl ⟨Nat.le_of_ble_eq_true rfl, Nat.le_of_ble_eq_true rfl⟩ hP hD (lit := u2) (wt := u.1 ++ [outc G ol u.2]) (wc := u2) (isC := List.range (u2).length) (gRange _) (gRange_nd _) rfl hrf3 rfl hl.1 (Nat.le_of_ble_eq_true rfl) dL_law_1740 ⟨by have h9 := hb1.2.2.1; show cells + mc + 0 + 0 ≤ 601024; omega, by have h9 := hb1.2.2.2.1; show slots + ms + 0 + 0 ≤ 7293034; omega⟩) hP hD hS (lit := u2) (wt := u.1 ++ [outc G ol u.2]) (wc := u2) (isC := List.range (u2).length) (wr := []) (isR := []) (gRange _) rfl rfl (fun _ h_ => by cases h_) (fun r3 u3 H locs hp3 hP hD hS => ?_)
  obtain ⟨rfl, hR3⟩ := hp3
  have hP : va_P G.1 vwCl (u3 ++ (u.1 ++ [outc G ol u.2])) H := hP
  have hD : va_D A (u3 ++ (u.1 ++ [outc G ol u.2])) := hD
  refine lv_iload hx hb dL_law_1743 (lv_at hl 1 rfl) ?_
  refine gIcmp_eq (a := k) (b := k) (tgt := 1750) hx hb dL_law_1745 (by decide) (by omega) (by omega) (fun _ => ?_) (fun c9 => absurd rfl c9)
  refine lv_iload hx hb dL_law_1750 (lv_at hl 1 rfl) ?_
  have fin : W p l e room_1 s m args below meth c H locs (cells + mc + 0 + 0) (slots + ms + 0 + 0) Q (F0 m 1767 ls []) := by
    refine lv_goto (tgt := 2516) hx hb dL_law_1767 (by decide) ?_
    refine W.widen (k := cells + 4) (n := slots + 528) (by have h9 := hb1.2.2.1; omega) (by have h9 := hb1.2.2.2.1; omega) ?_
    exact kk H locs ls ⟨u.1, u3, u.2, S2, k, hC2, hR3, hZs S2 v hz, gPperm List.perm_append_comm hP, gDperm List.perm_append_comm hD, hS, lv_sub hl [2, 3, 4, 5, 6] rfl⟩
  refine gIf_ne (a := k) (tgt := 1767) hx hb dL_law_1752 (by decide) (by omega) (fun _ => fin) (fun c9 => ?_)
  refine lv_aload_n hx hb dL_law_1755 rfl (lv_at hl 5 rfl) ?_
  refine lv_iconst (v := nI 0) hx hb dL_law_1756 (by decide) ?_
  have hP3 : va_P G.1 vwCl ((u3 ++ u.1) ++ [outc G ol u.2]) H := by rw [List.append_assoc]; exact hP
  refine gLald hx hb hKK.1 hP3 dL_law_1757 ?_
  refine lv_iload hx hb dL_law_1758 (lv_at hl 0 rfl) ?_
  refine lv_i2l (v := r2.toInt64) hx hb dL_law_1760 rfl ?_
  refine W.lcmp hx hb dL_law_1761 ?_
  rw [hv c9, hv2 c9, lcmp_self]
  exact lv_if_eq (tgt := 1767) hx hb dL_law_1762 (by decide) (fun _ => fin) (fun c8 => absurd rfl c8)

set_option maxHeartbeats 4000000 in
set_option maxRecDepth 100000 in
theorem cs_areaByCells {p : Program} {l : Launch} {e : Env} {s : State} {m : MethodId} {args : Array Value} {below : List Frame} {meth : Method} {c : Code} {H : Heap} {locs : List Loc} {cells slots : Nat} {Q : State → Prop} {G : gG} {A : Nat → Prop} {b L i lq mq ol : Nat} {xs : Nat → Int32} {ls : Array Slot} (F : lwF p l s m args meth c G A b L xs) (hi : i + 5 ≤ L) (hc : cells + 4 ≤ 601024) (hs : slots + 528 ≤ 7293034) (hI : lwI s G A lq mq ol b i H locs ls)
    (kk : ∀ (H : Heap) (locs : List Loc) (ls : Array Slot), lwI s G A lq mq ol b i H locs ls → W p l e room_1 s m args below meth c H locs (cells + 4) (slots + 528) Q (F0 m 2516 ls [])) : W p l e room_1 s m args below meth c H locs cells slots Q (F0 m 1770 ls []) := by
  obtain ⟨F1, hZ, hX, hbl, hbA, hL, hl9⟩ := F
  obtain ⟨wv, vv, f, S, th, hC, hR, hSp, hP, hD, hS, hl⟩ := hI
  have hx := F1.1
  have hb := F1.2.1
  have hKK := F1.2.2.2.2.2.2.2.2.1
  obtain ⟨k, Z, hk3, hZs, ⟨rm, mc, ms, hb1, hw⟩, rm2, hb2, hm⟩ := P_areaByCells l G lq ol mq (f := f) hl9 (xs (i + 1)) hC hR hSp
  refine lv_aload_n hx hb dL_law_1770 rfl (lv_at hl 1 rfl) ?_
  refine lv_aload_n hx hb dL_law_1771 rfl (lv_at hl 0 rfl) ?_
  refine lv_iload hx hb dL_law_1772 (lv_at hl 4 rfl) ?_
  refine lv_iconst (v := nI 1) hx hb dL_law_1774 (by decide) ?_
  refine gIadd (a := i) (b := 1) hx hb dL_law_1775 ?_
  refine gSld hx hb hX hbl hbA hS (i + 1) (by omega) (by omega) dL_law_1776 ?_
  refine lv_aload_n hx hb dL_law_1777 rfl (lv_at hl 3 rfl) ?_
  refine gCi F1 (gRunSW (own := RL) (bytes := cL_areaByCells) (n := 3) (As := .ref lq :: ([.int (xs (i + 1))] ++ [.ref ol])) (rest := []) F1 hZ hS (hw H.size) gL_law_L_areaByCells rfl rfl hb1.1 hb1.2.1 (by decide +kernel) rfl ⟨by have h9 := hb1.2.2.2.2.1; show rm.frames + 1 ≤ 11; omega, by have h9 := hb1.2.2.2.2.2; show 8 + (4 + 11) + rm.locals ≤ 404; omega⟩ hP hD (lit := wv ++ [outc G ol f]) (wt := vv) (wc := wv ++ [outc G ol f]) (isC := List.range (wv ++ [outc G ol f]).length) (gRange _) (gRange_nd _) rfl hl.1 (Nat.le_of_ble_eq_true rfl) dL_law_1778 ⟨by have h9 := hb1.2.2.1; show cells + mc ≤ 601024; omega, by have h9 := hb1.2.2.2.1; show slots + ms ≤ 7293034; omega⟩) hP hD hS (lit := wv ++ [outc G ol f]) (wt := vv) (wc := wv ++ [outc G ol f]) (isC := List.range (wv ++ [outc G ol f]).length) (wr := []) (isR := []) (gRange _) rfl rfl (fun _ h_ => by cases h_) (fun r u H locs hp hP hD hS => ?_)
  obtain ⟨rfl, S2, v, hz, hC2, hv⟩ := hp
  have hP : va_P G.1 vwCl ((u.1 ++ [outc G ol u.2]) ++ vv) H := hP
  have hD : va_D A ((u.1 ++ [outc G ol u.2]) ++ vv) := hD
  refine lv_istore (lv' := [(5, .int (nI k)), (0, .ref b), (1, .ref lq), (2, .ref mq), (3, .ref ol), (4, .int (nI i))]) hx hb dL_law_1781 hl (by decide) rfl (fun ls hl => ?_)
  have hP := gPperm List.perm_append_comm hP
  have hD := gDperm List.perm_append_comm hD
  obtain ⟨fs2, hrf⟩ := rf_recv hR
  refine lv_aload_n hx hb dL_law_1783 rfl (lv_at hl 3 rfl) ?_
  refine lv_aload_n hx hb dL_law_1784 rfl (lv_at hl 1 rfl) ?_
  refine lv_iload hx hb dL_law_1785 (lv_at hl 5 rfl) ?_
  refine lv_iconst (v := nI 1) hx hb dL_law_1787 (by decide) ?_
  refine gIadd (a := i) (b := 1) hx hb dL_law_1788 ?_
  refine gSld hx hb hX hbl hbA hS (i + 1) (by omega) (by omega) dL_law_1789 ?_
  refine gCi F1 (gRunV (own := RL) (C := RX4) (ci := 4) (bytes := cX4_areaByCells) (n := 1) (As := [.int (xs (i + 1))]) (rest := []) F1 (hm H.size) gL_law_X4_areaByCells rfl rfl hb2.1 hb2.2.1 (by decide +kernel) rfl ⟨by have h9 := hb2.2.2.2.2.1; show rm2.frames + 1 ≤ 11; omega, by have h9 := hb2.2.2.2.2.2; show 8 + (2 + 11) + rm2.locals ≤ 404; omega⟩ hP hD (lit := vv) (wt := u.1 ++ [outc G ol u.2]) (wc := vv) (isC := List.range (vv).length) (gRange _) (gRange_nd _) rfl hrf rfl hl.1 (Nat.le_of_ble_eq_true rfl) dL_law_1790 ⟨by have h9 := hb1.2.2.1; show cells + mc + 0 ≤ 601024; omega, by have h9 := hb1.2.2.2.1; show slots + ms + 0 ≤ 7293034; omega⟩) hP hD hS (lit := vv) (wt := u.1 ++ [outc G ol u.2]) (wc := vv) (isC := List.range (vv).length) (wr := []) (isR := []) (gRange _) rfl rfl (fun _ h_ => by cases h_) (fun r2 u2 H locs hp2 hP hD hS => ?_)
  obtain ⟨hR2, hv2⟩ := hp2 S2 v hz
  have hP : va_P G.1 vwCl (u2 ++ (u.1 ++ [outc G ol u.2])) H := hP
  have hD : va_D A (u2 ++ (u.1 ++ [outc G ol u.2])) := hD
  refine lv_istore (lv' := [(6, .int r2), (5, .int (nI k)), (0, .ref b), (1, .ref lq), (2, .ref mq), (3, .ref ol), (4, .int (nI i))]) hx hb dL_law_1793 hl (by decide) rfl (fun ls hl => ?_)
  refine lv_aload_n hx hb dL_law_1795 rfl (lv_at hl 4 rfl) ?_
  obtain ⟨fs3, hrf3⟩ := rf_recv hR2
  refine gCi F1 (gRunV (own := RL) (C := RX4) (ci := 4) (bytes := cX4_thrown) (n := 0) (As := []) (rest := []) F1 (r_thrown l G mq hR2 (hZs S2 v hz) H.size) gL_law_X4_thrown rfl rfl rfl rfl (by decide +kernel) rfl ⟨Nat.le_of_ble_eq_true rfl, Nat.le_of_ble_eq_true rfl⟩ hP hD (lit := u2) (wt := u.1 ++ [outc G ol u.2]) (wc := u2) (isC := List.range (u2).length) (gRange _) (gRange_nd _) rfl hrf3 rfl hl.1 (Nat.le_of_ble_eq_true rfl) dL_law_1796 ⟨by have h9 := hb1.2.2.1; show cells + mc + 0 + 0 ≤ 601024; omega, by have h9 := hb1.2.2.2.1; show slots + ms + 0 + 0 ≤ 7293034; omega⟩) hP hD hS (lit := u2) (wt := u.1 ++ [outc G ol u.2]) (wc := u2) (isC := List.range (u2).length) (wr := []) (isR := []) (gRange _) rfl rfl (fun _ h_ => by cases h_) (fun r3 u3 H locs hp3 hP hD hS => ?_)
  obtain ⟨rfl, hR3⟩ := hp3
  have hP : va_P G.1 vwCl (u3 ++ (u.1 ++ [outc G ol u.2])) H := hP
  have hD : va_D A (u3 ++ (u.1 ++ [outc G ol u.2])) := hD
  refine lv_iload hx hb dL_law_1799 (lv_at hl 1 rfl) ?_
  refine gIcmp_eq (a := k) (b := k) (tgt := 1806) hx hb dL_law_1801 (by decide) (by omega) (by omega) (fun _ => ?_) (fun c9 => absurd rfl c9)
  refine lv_iload hx hb dL_law_1806 (lv_at hl 1 rfl) ?_
  have fin : W p l e room_1 s m args below meth c H locs (cells + mc + 0 + 0) (slots + ms + 0 + 0) Q (F0 m 1823 ls []) := by
    refine lv_goto (tgt := 2516) hx hb dL_law_1823 (by decide) ?_
    refine W.widen (k := cells + 4) (n := slots + 528) (by have h9 := hb1.2.2.1; omega) (by have h9 := hb1.2.2.2.1; omega) ?_
    exact kk H locs ls ⟨u.1, u3, u.2, S2, k, hC2, hR3, hZs S2 v hz, gPperm List.perm_append_comm hP, gDperm List.perm_append_comm hD, hS, lv_sub hl [2, 3, 4, 5, 6] rfl⟩
  refine gIf_ne (a := k) (tgt := 1823) hx hb dL_law_1808 (by decide) (by omega) (fun _ => fin) (fun c9 => ?_)
  refine lv_aload_n hx hb dL_law_1811 rfl (lv_at hl 5 rfl) ?_
  refine lv_iconst (v := nI 0) hx hb dL_law_1812 (by decide) ?_
  have hP3 : va_P G.1 vwCl ((u3 ++ u.1) ++ [outc G ol u.2]) H := by rw [List.append_assoc]; exact hP
  refine gLald hx hb hKK.1 hP3 dL_law_1813 ?_
  refine lv_iload hx hb dL_law_1814 (lv_at hl 0 rfl) ?_
  refine lv_i2l (v := r2.toInt64) hx hb dL_law_1816 rfl ?_
  refine W.lcmp hx hb dL_law_1817 ?_
  rw [hv c9, hv2 c9, lcmp_self]
  exact lv_if_eq (tgt := 1823) hx hb dL_law_1818 (by decide) (fun _ => fin) (fun c8 => absurd rfl c8)

set_option maxHeartbeats 4000000 in
set_option maxRecDepth 100000 in
theorem cs_fenceByPlots {p : Program} {l : Launch} {e : Env} {s : State} {m : MethodId} {args : Array Value} {below : List Frame} {meth : Method} {c : Code} {H : Heap} {locs : List Loc} {cells slots : Nat} {Q : State → Prop} {G : gG} {A : Nat → Prop} {b L i lq mq ol : Nat} {xs : Nat → Int32} {ls : Array Slot} (F : lwF p l s m args meth c G A b L xs) (hi : i + 5 ≤ L) (hc : cells + 4 ≤ 601024) (hs : slots + 528 ≤ 7293034) (hI : lwI s G A lq mq ol b i H locs ls)
    (kk : ∀ (H : Heap) (locs : List Loc) (ls : Array Slot), lwI s G A lq mq ol b i H locs ls → W p l e room_1 s m args below meth c H locs (cells + 4) (slots + 528) Q (F0 m 2516 ls [])) : W p l e room_1 s m args below meth c H locs cells slots Q (F0 m 1826 ls []) := by
  obtain ⟨F1, hZ, hX, hbl, hbA, hL, hl9⟩ := F
  obtain ⟨wv, vv, f, S, th, hC, hR, hSp, hP, hD, hS, hl⟩ := hI
  have hx := F1.1
  have hb := F1.2.1
  have hKK := F1.2.2.2.2.2.2.2.2.1
  obtain ⟨k, Z, hk3, hZs, ⟨rm, mc, ms, hb1, hw⟩, rm2, hb2, hm⟩ := P_fenceByPlots l G lq ol mq (f := f) hl9 (xs (i + 1)) hC hR hSp
  refine lv_aload_n hx hb dL_law_1826 rfl (lv_at hl 1 rfl) ?_
  refine lv_aload_n hx hb dL_law_1827 rfl (lv_at hl 0 rfl) ?_
  refine lv_iload hx hb dL_law_1828 (lv_at hl 4 rfl) ?_
  refine lv_iconst (v := nI 1) hx hb dL_law_1830 (by decide) ?_
  refine gIadd (a := i) (b := 1) hx hb dL_law_1831 ?_
  refine gSld hx hb hX hbl hbA hS (i + 1) (by omega) (by omega) dL_law_1832 ?_
  refine lv_aload_n hx hb dL_law_1833 rfl (lv_at hl 3 rfl) ?_
  refine gCi F1 (gRunSW (own := RL) (bytes := cL_fenceByPlots) (n := 3) (As := .ref lq :: ([.int (xs (i + 1))] ++ [.ref ol])) (rest := []) F1 hZ hS (hw H.size) gL_law_L_fenceByPlots rfl rfl hb1.1 hb1.2.1 (by decide +kernel) rfl ⟨by have h9 := hb1.2.2.2.2.1; show rm.frames + 1 ≤ 11; omega, by have h9 := hb1.2.2.2.2.2; show 8 + (4 + 11) + rm.locals ≤ 404; omega⟩ hP hD (lit := wv ++ [outc G ol f]) (wt := vv) (wc := wv ++ [outc G ol f]) (isC := List.range (wv ++ [outc G ol f]).length) (gRange _) (gRange_nd _) rfl hl.1 (Nat.le_of_ble_eq_true rfl) dL_law_1834 ⟨by have h9 := hb1.2.2.1; show cells + mc ≤ 601024; omega, by have h9 := hb1.2.2.2.1; show slots + ms ≤ 7293034; omega⟩) hP hD hS (lit := wv ++ [outc G ol f]) (wt := vv) (wc := wv ++ [outc G ol f]) (isC := List.range (wv ++ [outc G ol f]).length) (wr := []) (isR := []) (gRange _) rfl rfl (fun _ h_ => by cases h_) (fun r u H locs hp hP hD hS => ?_)
  obtain ⟨rfl, S2, v, hz, hC2, hv⟩ := hp
  have hP : va_P G.1 vwCl ((u.1 ++ [outc G ol u.2]) ++ vv) H := hP
  have hD : va_D A ((u.1 ++ [outc G ol u.2]) ++ vv) := hD
  refine lv_istore (lv' := [(5, .int (nI k)), (0, .ref b), (1, .ref lq), (2, .ref mq), (3, .ref ol), (4, .int (nI i))]) hx hb dL_law_1837 hl (by decide) rfl (fun ls hl => ?_)
  have hP := gPperm List.perm_append_comm hP
  have hD := gDperm List.perm_append_comm hD
  obtain ⟨fs2, hrf⟩ := rf_recv hR
  refine lv_aload_n hx hb dL_law_1839 rfl (lv_at hl 3 rfl) ?_
  refine lv_aload_n hx hb dL_law_1840 rfl (lv_at hl 1 rfl) ?_
  refine lv_iload hx hb dL_law_1841 (lv_at hl 5 rfl) ?_
  refine lv_iconst (v := nI 1) hx hb dL_law_1843 (by decide) ?_
  refine gIadd (a := i) (b := 1) hx hb dL_law_1844 ?_
  refine gSld hx hb hX hbl hbA hS (i + 1) (by omega) (by omega) dL_law_1845 ?_
  refine gCi F1 (gRunV (own := RL) (C := RX4) (ci := 4) (bytes := cX4_fenceByPlots) (n := 1) (As := [.int (xs (i + 1))]) (rest := []) F1 (hm H.size) gL_law_X4_fenceByPlots rfl rfl hb2.1 hb2.2.1 (by decide +kernel) rfl ⟨by have h9 := hb2.2.2.2.2.1; show rm2.frames + 1 ≤ 11; omega, by have h9 := hb2.2.2.2.2.2; show 8 + (2 + 11) + rm2.locals ≤ 404; omega⟩ hP hD (lit := vv) (wt := u.1 ++ [outc G ol u.2]) (wc := vv) (isC := List.range (vv).length) (gRange _) (gRange_nd _) rfl hrf rfl hl.1 (Nat.le_of_ble_eq_true rfl) dL_law_1846 ⟨by have h9 := hb1.2.2.1; show cells + mc + 0 ≤ 601024; omega, by have h9 := hb1.2.2.2.1; show slots + ms + 0 ≤ 7293034; omega⟩) hP hD hS (lit := vv) (wt := u.1 ++ [outc G ol u.2]) (wc := vv) (isC := List.range (vv).length) (wr := []) (isR := []) (gRange _) rfl rfl (fun _ h_ => by cases h_) (fun r2 u2 H locs hp2 hP hD hS => ?_)
  obtain ⟨hR2, hv2⟩ := hp2 S2 v hz
  have hP : va_P G.1 vwCl (u2 ++ (u.1 ++ [outc G ol u.2])) H := hP
  have hD : va_D A (u2 ++ (u.1 ++ [outc G ol u.2])) := hD
  refine lv_istore (lv' := [(6, .int r2), (5, .int (nI k)), (0, .ref b), (1, .ref lq), (2, .ref mq), (3, .ref ol), (4, .int (nI i))]) hx hb dL_law_1849 hl (by decide) rfl (fun ls hl => ?_)
  refine lv_aload_n hx hb dL_law_1851 rfl (lv_at hl 4 rfl) ?_
  obtain ⟨fs3, hrf3⟩ := rf_recv hR2
  refine gCi F1 (gRunV (own := RL) (C := RX4) (ci := 4) (bytes := cX4_thrown) (n := 0) (As := []) (rest := []) F1 (r_thrown l G mq hR2 (hZs S2 v hz) H.size) gL_law_X4_thrown rfl rfl rfl rfl (by decide +kernel) rfl ⟨Nat.le_of_ble_eq_true rfl, Nat.le_of_ble_eq_true rfl⟩ hP hD (lit := u2) (wt := u.1 ++ [outc G ol u.2]) (wc := u2) (isC := List.range (u2).length) (gRange _) (gRange_nd _) rfl hrf3 rfl hl.1 (Nat.le_of_ble_eq_true rfl) dL_law_1852 ⟨by have h9 := hb1.2.2.1; show cells + mc + 0 + 0 ≤ 601024; omega, by have h9 := hb1.2.2.2.1; show slots + ms + 0 + 0 ≤ 7293034; omega⟩) hP hD hS (lit := u2) (wt := u.1 ++ [outc G ol u.2]) (wc := u2) (isC := List.range (u2).length) (wr := []) (isR := []) (gRange _) rfl rfl (fun _ h_ => by cases h_) (fun r3 u3 H locs hp3 hP hD hS => ?_)
  obtain ⟨rfl, hR3⟩ := hp3
  have hP : va_P G.1 vwCl (u3 ++ (u.1 ++ [outc G ol u.2])) H := hP
  have hD : va_D A (u3 ++ (u.1 ++ [outc G ol u.2])) := hD
  refine lv_iload hx hb dL_law_1855 (lv_at hl 1 rfl) ?_
  refine gIcmp_eq (a := k) (b := k) (tgt := 1862) hx hb dL_law_1857 (by decide) (by omega) (by omega) (fun _ => ?_) (fun c9 => absurd rfl c9)
  refine lv_iload hx hb dL_law_1862 (lv_at hl 1 rfl) ?_
  have fin : W p l e room_1 s m args below meth c H locs (cells + mc + 0 + 0) (slots + ms + 0 + 0) Q (F0 m 1879 ls []) := by
    refine lv_goto (tgt := 2516) hx hb dL_law_1879 (by decide) ?_
    refine W.widen (k := cells + 4) (n := slots + 528) (by have h9 := hb1.2.2.1; omega) (by have h9 := hb1.2.2.2.1; omega) ?_
    exact kk H locs ls ⟨u.1, u3, u.2, S2, k, hC2, hR3, hZs S2 v hz, gPperm List.perm_append_comm hP, gDperm List.perm_append_comm hD, hS, lv_sub hl [2, 3, 4, 5, 6] rfl⟩
  refine gIf_ne (a := k) (tgt := 1879) hx hb dL_law_1864 (by decide) (by omega) (fun _ => fin) (fun c9 => ?_)
  refine lv_aload_n hx hb dL_law_1867 rfl (lv_at hl 5 rfl) ?_
  refine lv_iconst (v := nI 0) hx hb dL_law_1868 (by decide) ?_
  have hP3 : va_P G.1 vwCl ((u3 ++ u.1) ++ [outc G ol u.2]) H := by rw [List.append_assoc]; exact hP
  refine gLald hx hb hKK.1 hP3 dL_law_1869 ?_
  refine lv_iload hx hb dL_law_1870 (lv_at hl 0 rfl) ?_
  refine lv_i2l (v := r2.toInt64) hx hb dL_law_1872 rfl ?_
  refine W.lcmp hx hb dL_law_1873 ?_
  rw [hv c9, hv2 c9, lcmp_self]
  exact lv_if_eq (tgt := 1879) hx hb dL_law_1874 (by decide) (fun _ => fin) (fun c8 => absurd rfl c8)

set_option maxHeartbeats 4000000 in
set_option maxRecDepth 100000 in
theorem cs_fenceByCells {p : Program} {l : Launch} {e : Env} {s : State} {m : MethodId} {args : Array Value} {below : List Frame} {meth : Method} {c : Code} {H : Heap} {locs : List Loc} {cells slots : Nat} {Q : State → Prop} {G : gG} {A : Nat → Prop} {b L i lq mq ol : Nat} {xs : Nat → Int32} {ls : Array Slot} (F : lwF p l s m args meth c G A b L xs) (hi : i + 5 ≤ L) (hc : cells + 4 ≤ 601024) (hs : slots + 528 ≤ 7293034) (hI : lwI s G A lq mq ol b i H locs ls)
    (kk : ∀ (H : Heap) (locs : List Loc) (ls : Array Slot), lwI s G A lq mq ol b i H locs ls → W p l e room_1 s m args below meth c H locs (cells + 4) (slots + 528) Q (F0 m 2516 ls [])) : W p l e room_1 s m args below meth c H locs cells slots Q (F0 m 1882 ls []) := by
  obtain ⟨F1, hZ, hX, hbl, hbA, hL, hl9⟩ := F
  obtain ⟨wv, vv, f, S, th, hC, hR, hSp, hP, hD, hS, hl⟩ := hI
  have hx := F1.1
  have hb := F1.2.1
  have hKK := F1.2.2.2.2.2.2.2.2.1
  obtain ⟨k, Z, hk3, hZs, ⟨rm, mc, ms, hb1, hw⟩, rm2, hb2, hm⟩ := P_fenceByCells l G lq ol mq (f := f) hl9 (xs (i + 1)) hC hR hSp
  refine lv_aload_n hx hb dL_law_1882 rfl (lv_at hl 1 rfl) ?_
  refine lv_aload_n hx hb dL_law_1883 rfl (lv_at hl 0 rfl) ?_
  refine lv_iload hx hb dL_law_1884 (lv_at hl 4 rfl) ?_
  refine lv_iconst (v := nI 1) hx hb dL_law_1886 (by decide) ?_
  refine gIadd (a := i) (b := 1) hx hb dL_law_1887 ?_
  refine gSld hx hb hX hbl hbA hS (i + 1) (by omega) (by omega) dL_law_1888 ?_
  refine lv_aload_n hx hb dL_law_1889 rfl (lv_at hl 3 rfl) ?_
  refine gCi F1 (gRunSW (own := RL) (bytes := cL_fenceByCells) (n := 3) (As := .ref lq :: ([.int (xs (i + 1))] ++ [.ref ol])) (rest := []) F1 hZ hS (hw H.size) gL_law_L_fenceByCells rfl rfl hb1.1 hb1.2.1 (by decide +kernel) rfl ⟨by have h9 := hb1.2.2.2.2.1; show rm.frames + 1 ≤ 11; omega, by have h9 := hb1.2.2.2.2.2; show 8 + (4 + 11) + rm.locals ≤ 404; omega⟩ hP hD (lit := wv ++ [outc G ol f]) (wt := vv) (wc := wv ++ [outc G ol f]) (isC := List.range (wv ++ [outc G ol f]).length) (gRange _) (gRange_nd _) rfl hl.1 (Nat.le_of_ble_eq_true rfl) dL_law_1890 ⟨by have h9 := hb1.2.2.1; show cells + mc ≤ 601024; omega, by have h9 := hb1.2.2.2.1; show slots + ms ≤ 7293034; omega⟩) hP hD hS (lit := wv ++ [outc G ol f]) (wt := vv) (wc := wv ++ [outc G ol f]) (isC := List.range (wv ++ [outc G ol f]).length) (wr := []) (isR := []) (gRange _) rfl rfl (fun _ h_ => by cases h_) (fun r u H locs hp hP hD hS => ?_)
  obtain ⟨rfl, S2, v, hz, hC2, hv⟩ := hp
  have hP : va_P G.1 vwCl ((u.1 ++ [outc G ol u.2]) ++ vv) H := hP
  have hD : va_D A ((u.1 ++ [outc G ol u.2]) ++ vv) := hD
  refine lv_istore (lv' := [(5, .int (nI k)), (0, .ref b), (1, .ref lq), (2, .ref mq), (3, .ref ol), (4, .int (nI i))]) hx hb dL_law_1893 hl (by decide) rfl (fun ls hl => ?_)
  have hP := gPperm List.perm_append_comm hP
  have hD := gDperm List.perm_append_comm hD
  obtain ⟨fs2, hrf⟩ := rf_recv hR
  refine lv_aload_n hx hb dL_law_1895 rfl (lv_at hl 3 rfl) ?_
  refine lv_aload_n hx hb dL_law_1896 rfl (lv_at hl 1 rfl) ?_
  refine lv_iload hx hb dL_law_1897 (lv_at hl 5 rfl) ?_
  refine lv_iconst (v := nI 1) hx hb dL_law_1899 (by decide) ?_
  refine gIadd (a := i) (b := 1) hx hb dL_law_1900 ?_
  refine gSld hx hb hX hbl hbA hS (i + 1) (by omega) (by omega) dL_law_1901 ?_
  refine gCi F1 (gRunV (own := RL) (C := RX4) (ci := 4) (bytes := cX4_fenceByCells) (n := 1) (As := [.int (xs (i + 1))]) (rest := []) F1 (hm H.size) gL_law_X4_fenceByCells rfl rfl hb2.1 hb2.2.1 (by decide +kernel) rfl ⟨by have h9 := hb2.2.2.2.2.1; show rm2.frames + 1 ≤ 11; omega, by have h9 := hb2.2.2.2.2.2; show 8 + (2 + 11) + rm2.locals ≤ 404; omega⟩ hP hD (lit := vv) (wt := u.1 ++ [outc G ol u.2]) (wc := vv) (isC := List.range (vv).length) (gRange _) (gRange_nd _) rfl hrf rfl hl.1 (Nat.le_of_ble_eq_true rfl) dL_law_1902 ⟨by have h9 := hb1.2.2.1; show cells + mc + 0 ≤ 601024; omega, by have h9 := hb1.2.2.2.1; show slots + ms + 0 ≤ 7293034; omega⟩) hP hD hS (lit := vv) (wt := u.1 ++ [outc G ol u.2]) (wc := vv) (isC := List.range (vv).length) (wr := []) (isR := []) (gRange _) rfl rfl (fun _ h_ => by cases h_) (fun r2 u2 H locs hp2 hP hD hS => ?_)
  obtain ⟨hR2, hv2⟩ := hp2 S2 v hz
  have hP : va_P G.1 vwCl (u2 ++ (u.1 ++ [outc G ol u.2])) H := hP
  have hD : va_D A (u2 ++ (u.1 ++ [outc G ol u.2])) := hD
  refine lv_istore (lv' := [(6, .int r2), (5, .int (nI k)), (0, .ref b), (1, .ref lq), (2, .ref mq), (3, .ref ol), (4, .int (nI i))]) hx hb dL_law_1905 hl (by decide) rfl (fun ls hl => ?_)
  refine lv_aload_n hx hb dL_law_1907 rfl (lv_at hl 4 rfl) ?_
  obtain ⟨fs3, hrf3⟩ := rf_recv hR2
  refine gCi F1 (gRunV (own := RL) (C := RX4) (ci := 4) (bytes := cX4_thrown) (n := 0) (As := []) (rest := []) F1 (r_thrown l G mq hR2 (hZs S2 v hz) H.size) gL_law_X4_thrown rfl rfl rfl rfl (by decide +kernel) rfl ⟨Nat.le_of_ble_eq_true rfl, Nat.le_of_ble_eq_true rfl⟩ hP hD (lit := u2) (wt := u.1 ++ [outc G ol u.2]) (wc := u2) (isC := List.range (u2).length) (gRange _) (gRange_nd _) rfl hrf3 rfl hl.1 (Nat.le_of_ble_eq_true rfl) dL_law_1908 ⟨by have h9 := hb1.2.2.1; show cells + mc + 0 + 0 ≤ 601024; omega, by have h9 := hb1.2.2.2.1; show slots + ms + 0 + 0 ≤ 7293034; omega⟩) hP hD hS (lit := u2) (wt := u.1 ++ [outc G ol u.2]) (wc := u2) (isC := List.range (u2).length) (wr := []) (isR := []) (gRange _) rfl rfl (fun _ h_ => by cases h_) (fun r3 u3 H locs hp3 hP hD hS => ?_)
  obtain ⟨rfl, hR3⟩ := hp3
  have hP : va_P G.1 vwCl (u3 ++ (u.1 ++ [outc G ol u.2])) H := hP
  have hD : va_D A (u3 ++ (u.1 ++ [outc G ol u.2])) := hD
  refine lv_iload hx hb dL_law_1911 (lv_at hl 1 rfl) ?_
  refine gIcmp_eq (a := k) (b := k) (tgt := 1918) hx hb dL_law_1913 (by decide) (by omega) (by omega) (fun _ => ?_) (fun c9 => absurd rfl c9)
  refine lv_iload hx hb dL_law_1918 (lv_at hl 1 rfl) ?_
  have fin : W p l e room_1 s m args below meth c H locs (cells + mc + 0 + 0) (slots + ms + 0 + 0) Q (F0 m 1935 ls []) := by
    refine lv_goto (tgt := 2516) hx hb dL_law_1935 (by decide) ?_
    refine W.widen (k := cells + 4) (n := slots + 528) (by have h9 := hb1.2.2.1; omega) (by have h9 := hb1.2.2.2.1; omega) ?_
    exact kk H locs ls ⟨u.1, u3, u.2, S2, k, hC2, hR3, hZs S2 v hz, gPperm List.perm_append_comm hP, gDperm List.perm_append_comm hD, hS, lv_sub hl [2, 3, 4, 5, 6] rfl⟩
  refine gIf_ne (a := k) (tgt := 1935) hx hb dL_law_1920 (by decide) (by omega) (fun _ => fin) (fun c9 => ?_)
  refine lv_aload_n hx hb dL_law_1923 rfl (lv_at hl 5 rfl) ?_
  refine lv_iconst (v := nI 0) hx hb dL_law_1924 (by decide) ?_
  have hP3 : va_P G.1 vwCl ((u3 ++ u.1) ++ [outc G ol u.2]) H := by rw [List.append_assoc]; exact hP
  refine gLald hx hb hKK.1 hP3 dL_law_1925 ?_
  refine lv_iload hx hb dL_law_1926 (lv_at hl 0 rfl) ?_
  refine lv_i2l (v := r2.toInt64) hx hb dL_law_1928 rfl ?_
  refine W.lcmp hx hb dL_law_1929 ?_
  rw [hv c9, hv2 c9, lcmp_self]
  exact lv_if_eq (tgt := 1935) hx hb dL_law_1930 (by decide) (fun _ => fin) (fun c8 => absurd rfl c8)

set_option maxHeartbeats 4000000 in
set_option maxRecDepth 100000 in
theorem cs_fenceBetween {p : Program} {l : Launch} {e : Env} {s : State} {m : MethodId} {args : Array Value} {below : List Frame} {meth : Method} {c : Code} {H : Heap} {locs : List Loc} {cells slots : Nat} {Q : State → Prop} {G : gG} {A : Nat → Prop} {b L i lq mq ol : Nat} {xs : Nat → Int32} {ls : Array Slot} (F : lwF p l s m args meth c G A b L xs) (hi : i + 5 ≤ L) (hc : cells + 4 ≤ 601024) (hs : slots + 528 ≤ 7293034) (hI : lwI s G A lq mq ol b i H locs ls)
    (kk : ∀ (H : Heap) (locs : List Loc) (ls : Array Slot), lwI s G A lq mq ol b i H locs ls → W p l e room_1 s m args below meth c H locs (cells + 4) (slots + 528) Q (F0 m 2516 ls [])) : W p l e room_1 s m args below meth c H locs cells slots Q (F0 m 1938 ls []) := by
  obtain ⟨F1, hZ, hX, hbl, hbA, hL, hl9⟩ := F
  obtain ⟨wv, vv, f, S, th, hC, hR, hSp, hP, hD, hS, hl⟩ := hI
  have hx := F1.1
  have hb := F1.2.1
  have hKK := F1.2.2.2.2.2.2.2.2.1
  obtain ⟨k, Z, hk3, hZs, ⟨rm, mc, ms, hb1, hw⟩, rm2, hb2, hm⟩ := P_fenceBetween l G lq ol mq (f := f) hl9 (xs (i + 1)) (xs (i + 2)) hC hR hSp
  refine lv_aload_n hx hb dL_law_1938 rfl (lv_at hl 1 rfl) ?_
  refine lv_aload_n hx hb dL_law_1939 rfl (lv_at hl 0 rfl) ?_
  refine lv_iload hx hb dL_law_1940 (lv_at hl 4 rfl) ?_
  refine lv_iconst (v := nI 1) hx hb dL_law_1942 (by decide) ?_
  refine gIadd (a := i) (b := 1) hx hb dL_law_1943 ?_
  refine gSld hx hb hX hbl hbA hS (i + 1) (by omega) (by omega) dL_law_1944 ?_
  refine lv_aload_n hx hb dL_law_1945 rfl (lv_at hl 0 rfl) ?_
  refine lv_iload hx hb dL_law_1946 (lv_at hl 4 rfl) ?_
  refine lv_iconst (v := nI 2) hx hb dL_law_1948 (by decide) ?_
  refine gIadd (a := i) (b := 2) hx hb dL_law_1949 ?_
  refine gSld hx hb hX hbl hbA hS (i + 2) (by omega) (by omega) dL_law_1950 ?_
  refine lv_aload_n hx hb dL_law_1951 rfl (lv_at hl 3 rfl) ?_
  refine gCi F1 (gRunSW (own := RL) (bytes := cL_fenceBetween) (n := 4) (As := .ref lq :: ([.int (xs (i + 1)), .int (xs (i + 2))] ++ [.ref ol])) (rest := []) F1 hZ hS (hw H.size) gL_law_L_fenceBetween rfl rfl hb1.1 hb1.2.1 (by decide +kernel) rfl ⟨by have h9 := hb1.2.2.2.2.1; show rm.frames + 1 ≤ 11; omega, by have h9 := hb1.2.2.2.2.2; show 8 + (5 + 11) + rm.locals ≤ 404; omega⟩ hP hD (lit := wv ++ [outc G ol f]) (wt := vv) (wc := wv ++ [outc G ol f]) (isC := List.range (wv ++ [outc G ol f]).length) (gRange _) (gRange_nd _) rfl hl.1 (Nat.le_of_ble_eq_true rfl) dL_law_1952 ⟨by have h9 := hb1.2.2.1; show cells + mc ≤ 601024; omega, by have h9 := hb1.2.2.2.1; show slots + ms ≤ 7293034; omega⟩) hP hD hS (lit := wv ++ [outc G ol f]) (wt := vv) (wc := wv ++ [outc G ol f]) (isC := List.range (wv ++ [outc G ol f]).length) (wr := []) (isR := []) (gRange _) rfl rfl (fun _ h_ => by cases h_) (fun r u H locs hp hP hD hS => ?_)
  obtain ⟨rfl, S2, v, hz, hC2, hv⟩ := hp
  have hP : va_P G.1 vwCl ((u.1 ++ [outc G ol u.2]) ++ vv) H := hP
  have hD : va_D A ((u.1 ++ [outc G ol u.2]) ++ vv) := hD
  refine lv_istore (lv' := [(5, .int (nI k)), (0, .ref b), (1, .ref lq), (2, .ref mq), (3, .ref ol), (4, .int (nI i))]) hx hb dL_law_1955 hl (by decide) rfl (fun ls hl => ?_)
  have hP := gPperm List.perm_append_comm hP
  have hD := gDperm List.perm_append_comm hD
  obtain ⟨fs2, hrf⟩ := rf_recv hR
  refine lv_aload_n hx hb dL_law_1957 rfl (lv_at hl 3 rfl) ?_
  refine lv_aload_n hx hb dL_law_1958 rfl (lv_at hl 1 rfl) ?_
  refine lv_iload hx hb dL_law_1959 (lv_at hl 5 rfl) ?_
  refine lv_iconst (v := nI 1) hx hb dL_law_1961 (by decide) ?_
  refine gIadd (a := i) (b := 1) hx hb dL_law_1962 ?_
  refine gSld hx hb hX hbl hbA hS (i + 1) (by omega) (by omega) dL_law_1963 ?_
  refine lv_aload_n hx hb dL_law_1964 rfl (lv_at hl 1 rfl) ?_
  refine lv_iload hx hb dL_law_1965 (lv_at hl 5 rfl) ?_
  refine lv_iconst (v := nI 2) hx hb dL_law_1967 (by decide) ?_
  refine gIadd (a := i) (b := 2) hx hb dL_law_1968 ?_
  refine gSld hx hb hX hbl hbA hS (i + 2) (by omega) (by omega) dL_law_1969 ?_
  refine gCi F1 (gRunV (own := RL) (C := RX4) (ci := 4) (bytes := cX4_fenceBetween) (n := 2) (As := [.int (xs (i + 1)), .int (xs (i + 2))]) (rest := []) F1 (hm H.size) gL_law_X4_fenceBetween rfl rfl hb2.1 hb2.2.1 (by decide +kernel) rfl ⟨by have h9 := hb2.2.2.2.2.1; show rm2.frames + 1 ≤ 11; omega, by have h9 := hb2.2.2.2.2.2; show 8 + (3 + 11) + rm2.locals ≤ 404; omega⟩ hP hD (lit := vv) (wt := u.1 ++ [outc G ol u.2]) (wc := vv) (isC := List.range (vv).length) (gRange _) (gRange_nd _) rfl hrf rfl hl.1 (Nat.le_of_ble_eq_true rfl) dL_law_1970 ⟨by have h9 := hb1.2.2.1; show cells + mc + 0 ≤ 601024; omega, by have h9 := hb1.2.2.2.1; show slots + ms + 0 ≤ 7293034; omega⟩) hP hD hS (lit := vv) (wt := u.1 ++ [outc G ol u.2]) (wc := vv) (isC := List.range (vv).length) (wr := []) (isR := []) (gRange _) rfl rfl (fun _ h_ => by cases h_) (fun r2 u2 H locs hp2 hP hD hS => ?_)
  obtain ⟨hR2, hv2⟩ := hp2 S2 v hz
  have hP : va_P G.1 vwCl (u2 ++ (u.1 ++ [outc G ol u.2])) H := hP
  have hD : va_D A (u2 ++ (u.1 ++ [outc G ol u.2])) := hD
  refine lv_istore (lv' := [(6, .int r2), (5, .int (nI k)), (0, .ref b), (1, .ref lq), (2, .ref mq), (3, .ref ol), (4, .int (nI i))]) hx hb dL_law_1973 hl (by decide) rfl (fun ls hl => ?_)
  refine lv_aload_n hx hb dL_law_1975 rfl (lv_at hl 4 rfl) ?_
  obtain ⟨fs3, hrf3⟩ := rf_recv hR2
  refine gCi F1 (gRunV (own := RL) (C := RX4) (ci := 4) (bytes := cX4_thrown) (n := 0) (As := []) (rest := []) F1 (r_thrown l G mq hR2 (hZs S2 v hz) H.size) gL_law_X4_thrown rfl rfl rfl rfl (by decide +kernel) rfl ⟨Nat.le_of_ble_eq_true rfl, Nat.le_of_ble_eq_true rfl⟩ hP hD (lit := u2) (wt := u.1 ++ [outc G ol u.2]) (wc := u2) (isC := List.range (u2).length) (gRange _) (gRange_nd _) rfl hrf3 rfl hl.1 (Nat.le_of_ble_eq_true rfl) dL_law_1976 ⟨by have h9 := hb1.2.2.1; show cells + mc + 0 + 0 ≤ 601024; omega, by have h9 := hb1.2.2.2.1; show slots + ms + 0 + 0 ≤ 7293034; omega⟩) hP hD hS (lit := u2) (wt := u.1 ++ [outc G ol u.2]) (wc := u2) (isC := List.range (u2).length) (wr := []) (isR := []) (gRange _) rfl rfl (fun _ h_ => by cases h_) (fun r3 u3 H locs hp3 hP hD hS => ?_)
  obtain ⟨rfl, hR3⟩ := hp3
  have hP : va_P G.1 vwCl (u3 ++ (u.1 ++ [outc G ol u.2])) H := hP
  have hD : va_D A (u3 ++ (u.1 ++ [outc G ol u.2])) := hD
  refine lv_iload hx hb dL_law_1979 (lv_at hl 1 rfl) ?_
  refine gIcmp_eq (a := k) (b := k) (tgt := 1986) hx hb dL_law_1981 (by decide) (by omega) (by omega) (fun _ => ?_) (fun c9 => absurd rfl c9)
  refine lv_iload hx hb dL_law_1986 (lv_at hl 1 rfl) ?_
  have fin : W p l e room_1 s m args below meth c H locs (cells + mc + 0 + 0) (slots + ms + 0 + 0) Q (F0 m 2003 ls []) := by
    refine lv_goto (tgt := 2516) hx hb dL_law_2003 (by decide) ?_
    refine W.widen (k := cells + 4) (n := slots + 528) (by have h9 := hb1.2.2.1; omega) (by have h9 := hb1.2.2.2.1; omega) ?_
    exact kk H locs ls ⟨u.1, u3, u.2, S2, k, hC2, hR3, hZs S2 v hz, gPperm List.perm_append_comm hP, gDperm List.perm_append_comm hD, hS, lv_sub hl [2, 3, 4, 5, 6] rfl⟩
  refine gIf_ne (a := k) (tgt := 2003) hx hb dL_law_1988 (by decide) (by omega) (fun _ => fin) (fun c9 => ?_)
  refine lv_aload_n hx hb dL_law_1991 rfl (lv_at hl 5 rfl) ?_
  refine lv_iconst (v := nI 0) hx hb dL_law_1992 (by decide) ?_
  have hP3 : va_P G.1 vwCl ((u3 ++ u.1) ++ [outc G ol u.2]) H := by rw [List.append_assoc]; exact hP
  refine gLald hx hb hKK.1 hP3 dL_law_1993 ?_
  refine lv_iload hx hb dL_law_1994 (lv_at hl 0 rfl) ?_
  refine lv_i2l (v := r2.toInt64) hx hb dL_law_1996 rfl ?_
  refine W.lcmp hx hb dL_law_1997 ?_
  rw [hv c9, hv2 c9, lcmp_self]
  exact lv_if_eq (tgt := 2003) hx hb dL_law_1998 (by decide) (fun _ => fin) (fun c8 => absurd rfl c8)

set_option maxHeartbeats 4000000 in
set_option maxRecDepth 100000 in
theorem cs_largestPlotOf {p : Program} {l : Launch} {e : Env} {s : State} {m : MethodId} {args : Array Value} {below : List Frame} {meth : Method} {c : Code} {H : Heap} {locs : List Loc} {cells slots : Nat} {Q : State → Prop} {G : gG} {A : Nat → Prop} {b L i lq mq ol : Nat} {xs : Nat → Int32} {ls : Array Slot} (F : lwF p l s m args meth c G A b L xs) (hi : i + 5 ≤ L) (hc : cells + 4 ≤ 601024) (hs : slots + 528 ≤ 7293034) (hI : lwI s G A lq mq ol b i H locs ls)
    (kk : ∀ (H : Heap) (locs : List Loc) (ls : Array Slot), lwI s G A lq mq ol b i H locs ls → W p l e room_1 s m args below meth c H locs (cells + 4) (slots + 528) Q (F0 m 2516 ls [])) : W p l e room_1 s m args below meth c H locs cells slots Q (F0 m 2006 ls []) := by
  obtain ⟨F1, hZ, hX, hbl, hbA, hL, hl9⟩ := F
  obtain ⟨wv, vv, f, S, th, hC, hR, hSp, hP, hD, hS, hl⟩ := hI
  have hx := F1.1
  have hb := F1.2.1
  have hKK := F1.2.2.2.2.2.2.2.2.1
  obtain ⟨k, Z, hk3, hZs, ⟨rm, mc, ms, hb1, hw⟩, rm2, hb2, hm⟩ := P_largestPlotOf l G lq ol mq (f := f) hl9 (xs (i + 1)) hC hR hSp
  refine lv_aload_n hx hb dL_law_2006 rfl (lv_at hl 1 rfl) ?_
  refine lv_aload_n hx hb dL_law_2007 rfl (lv_at hl 0 rfl) ?_
  refine lv_iload hx hb dL_law_2008 (lv_at hl 4 rfl) ?_
  refine lv_iconst (v := nI 1) hx hb dL_law_2010 (by decide) ?_
  refine gIadd (a := i) (b := 1) hx hb dL_law_2011 ?_
  refine gSld hx hb hX hbl hbA hS (i + 1) (by omega) (by omega) dL_law_2012 ?_
  refine lv_aload_n hx hb dL_law_2013 rfl (lv_at hl 3 rfl) ?_
  refine gCi F1 (gRunSW (own := RL) (bytes := cL_largestPlotOf) (n := 3) (As := .ref lq :: ([.int (xs (i + 1))] ++ [.ref ol])) (rest := []) F1 hZ hS (hw H.size) gL_law_L_largestPlotOf rfl rfl hb1.1 hb1.2.1 (by decide +kernel) rfl ⟨by have h9 := hb1.2.2.2.2.1; show rm.frames + 1 ≤ 11; omega, by have h9 := hb1.2.2.2.2.2; show 8 + (4 + 11) + rm.locals ≤ 404; omega⟩ hP hD (lit := wv ++ [outc G ol f]) (wt := vv) (wc := wv ++ [outc G ol f]) (isC := List.range (wv ++ [outc G ol f]).length) (gRange _) (gRange_nd _) rfl hl.1 (Nat.le_of_ble_eq_true rfl) dL_law_2014 ⟨by have h9 := hb1.2.2.1; show cells + mc ≤ 601024; omega, by have h9 := hb1.2.2.2.1; show slots + ms ≤ 7293034; omega⟩) hP hD hS (lit := wv ++ [outc G ol f]) (wt := vv) (wc := wv ++ [outc G ol f]) (isC := List.range (wv ++ [outc G ol f]).length) (wr := []) (isR := []) (gRange _) rfl rfl (fun _ h_ => by cases h_) (fun r u H locs hp hP hD hS => ?_)
  obtain ⟨rfl, S2, v, hz, hC2, hv⟩ := hp
  have hP : va_P G.1 vwCl ((u.1 ++ [outc G ol u.2]) ++ vv) H := hP
  have hD : va_D A ((u.1 ++ [outc G ol u.2]) ++ vv) := hD
  refine lv_istore (lv' := [(5, .int (nI k)), (0, .ref b), (1, .ref lq), (2, .ref mq), (3, .ref ol), (4, .int (nI i))]) hx hb dL_law_2017 hl (by decide) rfl (fun ls hl => ?_)
  have hP := gPperm List.perm_append_comm hP
  have hD := gDperm List.perm_append_comm hD
  obtain ⟨fs2, hrf⟩ := rf_recv hR
  refine lv_aload_n hx hb dL_law_2019 rfl (lv_at hl 3 rfl) ?_
  refine lv_aload_n hx hb dL_law_2020 rfl (lv_at hl 1 rfl) ?_
  refine lv_iload hx hb dL_law_2021 (lv_at hl 5 rfl) ?_
  refine lv_iconst (v := nI 1) hx hb dL_law_2023 (by decide) ?_
  refine gIadd (a := i) (b := 1) hx hb dL_law_2024 ?_
  refine gSld hx hb hX hbl hbA hS (i + 1) (by omega) (by omega) dL_law_2025 ?_
  refine gCi F1 (gRunV (own := RL) (C := RX4) (ci := 4) (bytes := cX4_largestPlotOf) (n := 1) (As := [.int (xs (i + 1))]) (rest := []) F1 (hm H.size) gL_law_X4_largestPlotOf rfl rfl hb2.1 hb2.2.1 (by decide +kernel) rfl ⟨by have h9 := hb2.2.2.2.2.1; show rm2.frames + 1 ≤ 11; omega, by have h9 := hb2.2.2.2.2.2; show 8 + (2 + 11) + rm2.locals ≤ 404; omega⟩ hP hD (lit := vv) (wt := u.1 ++ [outc G ol u.2]) (wc := vv) (isC := List.range (vv).length) (gRange _) (gRange_nd _) rfl hrf rfl hl.1 (Nat.le_of_ble_eq_true rfl) dL_law_2026 ⟨by have h9 := hb1.2.2.1; show cells + mc + 0 ≤ 601024; omega, by have h9 := hb1.2.2.2.1; show slots + ms + 0 ≤ 7293034; omega⟩) hP hD hS (lit := vv) (wt := u.1 ++ [outc G ol u.2]) (wc := vv) (isC := List.range (vv).length) (wr := []) (isR := []) (gRange _) rfl rfl (fun _ h_ => by cases h_) (fun r2 u2 H locs hp2 hP hD hS => ?_)
  obtain ⟨hR2, hv2⟩ := hp2 S2 v hz
  have hP : va_P G.1 vwCl (u2 ++ (u.1 ++ [outc G ol u.2])) H := hP
  have hD : va_D A (u2 ++ (u.1 ++ [outc G ol u.2])) := hD
  refine lv_istore (lv' := [(6, .int r2), (5, .int (nI k)), (0, .ref b), (1, .ref lq), (2, .ref mq), (3, .ref ol), (4, .int (nI i))]) hx hb dL_law_2029 hl (by decide) rfl (fun ls hl => ?_)
  refine lv_aload_n hx hb dL_law_2031 rfl (lv_at hl 4 rfl) ?_
  obtain ⟨fs3, hrf3⟩ := rf_recv hR2
  refine gCi F1 (gRunV (own := RL) (C := RX4) (ci := 4) (bytes := cX4_thrown) (n := 0) (As := []) (rest := []) F1 (r_thrown l G mq hR2 (hZs S2 v hz) H.size) gL_law_X4_thrown rfl rfl rfl rfl (by decide +kernel) rfl ⟨Nat.le_of_ble_eq_true rfl, Nat.le_of_ble_eq_true rfl⟩ hP hD (lit := u2) (wt := u.1 ++ [outc G ol u.2]) (wc := u2) (isC := List.range (u2).length) (gRange _) (gRange_nd _) rfl hrf3 rfl hl.1 (Nat.le_of_ble_eq_true rfl) dL_law_2032 ⟨by have h9 := hb1.2.2.1; show cells + mc + 0 + 0 ≤ 601024; omega, by have h9 := hb1.2.2.2.1; show slots + ms + 0 + 0 ≤ 7293034; omega⟩) hP hD hS (lit := u2) (wt := u.1 ++ [outc G ol u.2]) (wc := u2) (isC := List.range (u2).length) (wr := []) (isR := []) (gRange _) rfl rfl (fun _ h_ => by cases h_) (fun r3 u3 H locs hp3 hP hD hS => ?_)
  obtain ⟨rfl, hR3⟩ := hp3
  have hP : va_P G.1 vwCl (u3 ++ (u.1 ++ [outc G ol u.2])) H := hP
  have hD : va_D A (u3 ++ (u.1 ++ [outc G ol u.2])) := hD
  refine lv_iload hx hb dL_law_2035 (lv_at hl 1 rfl) ?_
  refine gIcmp_eq (a := k) (b := k) (tgt := 2042) hx hb dL_law_2037 (by decide) (by omega) (by omega) (fun _ => ?_) (fun c9 => absurd rfl c9)
  refine lv_iload hx hb dL_law_2042 (lv_at hl 1 rfl) ?_
  have fin : W p l e room_1 s m args below meth c H locs (cells + mc + 0 + 0) (slots + ms + 0 + 0) Q (F0 m 2059 ls []) := by
    refine lv_goto (tgt := 2516) hx hb dL_law_2059 (by decide) ?_
    refine W.widen (k := cells + 4) (n := slots + 528) (by have h9 := hb1.2.2.1; omega) (by have h9 := hb1.2.2.2.1; omega) ?_
    exact kk H locs ls ⟨u.1, u3, u.2, S2, k, hC2, hR3, hZs S2 v hz, gPperm List.perm_append_comm hP, gDperm List.perm_append_comm hD, hS, lv_sub hl [2, 3, 4, 5, 6] rfl⟩
  refine gIf_ne (a := k) (tgt := 2059) hx hb dL_law_2044 (by decide) (by omega) (fun _ => fin) (fun c9 => ?_)
  refine lv_aload_n hx hb dL_law_2047 rfl (lv_at hl 5 rfl) ?_
  refine lv_iconst (v := nI 0) hx hb dL_law_2048 (by decide) ?_
  have hP3 : va_P G.1 vwCl ((u3 ++ u.1) ++ [outc G ol u.2]) H := by rw [List.append_assoc]; exact hP
  refine gLald hx hb hKK.1 hP3 dL_law_2049 ?_
  refine lv_iload hx hb dL_law_2050 (lv_at hl 0 rfl) ?_
  refine lv_i2l (v := r2.toInt64) hx hb dL_law_2052 rfl ?_
  refine W.lcmp hx hb dL_law_2053 ?_
  rw [hv c9, hv2 c9, lcmp_self]
  exact lv_if_eq (tgt := 2059) hx hb dL_law_2054 (by decide) (fun _ => fin) (fun c8 => absurd rfl c8)

set_option maxHeartbeats 4000000 in
set_option maxRecDepth 100000 in
theorem cs_firstToLose {p : Program} {l : Launch} {e : Env} {s : State} {m : MethodId} {args : Array Value} {below : List Frame} {meth : Method} {c : Code} {H : Heap} {locs : List Loc} {cells slots : Nat} {Q : State → Prop} {G : gG} {A : Nat → Prop} {b L i lq mq ol : Nat} {xs : Nat → Int32} {ls : Array Slot} (F : lwF p l s m args meth c G A b L xs) (hi : i + 5 ≤ L) (hc : cells + 4 ≤ 601024) (hs : slots + 528 ≤ 7293034) (hI : lwI s G A lq mq ol b i H locs ls)
    (kk : ∀ (H : Heap) (locs : List Loc) (ls : Array Slot), lwI s G A lq mq ol b i H locs ls → W p l e room_1 s m args below meth c H locs (cells + 4) (slots + 528) Q (F0 m 2516 ls [])) : W p l e room_1 s m args below meth c H locs cells slots Q (F0 m 2062 ls []) := by
  obtain ⟨F1, hZ, hX, hbl, hbA, hL, hl9⟩ := F
  obtain ⟨wv, vv, f, S, th, hC, hR, hSp, hP, hD, hS, hl⟩ := hI
  have hx := F1.1
  have hb := F1.2.1
  have hKK := F1.2.2.2.2.2.2.2.2.1
  obtain ⟨k, Z, hk3, hZs, ⟨rm, mc, ms, hb1, hw⟩, rm2, hb2, hm⟩ := P_firstToLose l G lq ol mq (f := f) hl9 (xs (i + 1)) hC hR hSp
  refine lv_aload_n hx hb dL_law_2062 rfl (lv_at hl 1 rfl) ?_
  refine lv_aload_n hx hb dL_law_2063 rfl (lv_at hl 0 rfl) ?_
  refine lv_iload hx hb dL_law_2064 (lv_at hl 4 rfl) ?_
  refine lv_iconst (v := nI 1) hx hb dL_law_2066 (by decide) ?_
  refine gIadd (a := i) (b := 1) hx hb dL_law_2067 ?_
  refine gSld hx hb hX hbl hbA hS (i + 1) (by omega) (by omega) dL_law_2068 ?_
  refine lv_aload_n hx hb dL_law_2069 rfl (lv_at hl 3 rfl) ?_
  refine gCi F1 (gRunSW (own := RL) (bytes := cL_firstToLose) (n := 3) (As := .ref lq :: ([.int (xs (i + 1))] ++ [.ref ol])) (rest := []) F1 hZ hS (hw H.size) gL_law_L_firstToLose rfl rfl hb1.1 hb1.2.1 (by decide +kernel) rfl ⟨by have h9 := hb1.2.2.2.2.1; show rm.frames + 1 ≤ 11; omega, by have h9 := hb1.2.2.2.2.2; show 8 + (4 + 11) + rm.locals ≤ 404; omega⟩ hP hD (lit := wv ++ [outc G ol f]) (wt := vv) (wc := wv ++ [outc G ol f]) (isC := List.range (wv ++ [outc G ol f]).length) (gRange _) (gRange_nd _) rfl hl.1 (Nat.le_of_ble_eq_true rfl) dL_law_2070 ⟨by have h9 := hb1.2.2.1; show cells + mc ≤ 601024; omega, by have h9 := hb1.2.2.2.1; show slots + ms ≤ 7293034; omega⟩) hP hD hS (lit := wv ++ [outc G ol f]) (wt := vv) (wc := wv ++ [outc G ol f]) (isC := List.range (wv ++ [outc G ol f]).length) (wr := []) (isR := []) (gRange _) rfl rfl (fun _ h_ => by cases h_) (fun r u H locs hp hP hD hS => ?_)
  obtain ⟨rfl, S2, v, hz, hC2, hv⟩ := hp
  have hP : va_P G.1 vwCl ((u.1 ++ [outc G ol u.2]) ++ vv) H := hP
  have hD : va_D A ((u.1 ++ [outc G ol u.2]) ++ vv) := hD
  refine lv_istore (lv' := [(5, .int (nI k)), (0, .ref b), (1, .ref lq), (2, .ref mq), (3, .ref ol), (4, .int (nI i))]) hx hb dL_law_2073 hl (by decide) rfl (fun ls hl => ?_)
  have hP := gPperm List.perm_append_comm hP
  have hD := gDperm List.perm_append_comm hD
  obtain ⟨fs2, hrf⟩ := rf_recv hR
  refine lv_aload_n hx hb dL_law_2075 rfl (lv_at hl 3 rfl) ?_
  refine lv_aload_n hx hb dL_law_2076 rfl (lv_at hl 1 rfl) ?_
  refine lv_iload hx hb dL_law_2077 (lv_at hl 5 rfl) ?_
  refine lv_iconst (v := nI 1) hx hb dL_law_2079 (by decide) ?_
  refine gIadd (a := i) (b := 1) hx hb dL_law_2080 ?_
  refine gSld hx hb hX hbl hbA hS (i + 1) (by omega) (by omega) dL_law_2081 ?_
  refine gCi F1 (gRunV (own := RL) (C := RX4) (ci := 4) (bytes := cX4_firstToLose) (n := 1) (As := [.int (xs (i + 1))]) (rest := []) F1 (hm H.size) gL_law_X4_firstToLose rfl rfl hb2.1 hb2.2.1 (by decide +kernel) rfl ⟨by have h9 := hb2.2.2.2.2.1; show rm2.frames + 1 ≤ 11; omega, by have h9 := hb2.2.2.2.2.2; show 8 + (2 + 11) + rm2.locals ≤ 404; omega⟩ hP hD (lit := vv) (wt := u.1 ++ [outc G ol u.2]) (wc := vv) (isC := List.range (vv).length) (gRange _) (gRange_nd _) rfl hrf rfl hl.1 (Nat.le_of_ble_eq_true rfl) dL_law_2082 ⟨by have h9 := hb1.2.2.1; show cells + mc + 0 ≤ 601024; omega, by have h9 := hb1.2.2.2.1; show slots + ms + 0 ≤ 7293034; omega⟩) hP hD hS (lit := vv) (wt := u.1 ++ [outc G ol u.2]) (wc := vv) (isC := List.range (vv).length) (wr := []) (isR := []) (gRange _) rfl rfl (fun _ h_ => by cases h_) (fun r2 u2 H locs hp2 hP hD hS => ?_)
  obtain ⟨hR2, hv2⟩ := hp2 S2 v hz
  have hP : va_P G.1 vwCl (u2 ++ (u.1 ++ [outc G ol u.2])) H := hP
  have hD : va_D A (u2 ++ (u.1 ++ [outc G ol u.2])) := hD
  refine lv_istore (lv' := [(6, .int r2), (5, .int (nI k)), (0, .ref b), (1, .ref lq), (2, .ref mq), (3, .ref ol), (4, .int (nI i))]) hx hb dL_law_2085 hl (by decide) rfl (fun ls hl => ?_)
  refine lv_aload_n hx hb dL_law_2087 rfl (lv_at hl 4 rfl) ?_
  obtain ⟨fs3, hrf3⟩ := rf_recv hR2
  refine gCi F1 (gRunV (own := RL) (C := RX4) (ci := 4) (bytes := cX4_thrown) (n := 0) (As := []) (rest := []) F1 (r_thrown l G mq hR2 (hZs S2 v hz) H.size) gL_law_X4_thrown rfl rfl rfl rfl (by decide +kernel) rfl ⟨Nat.le_of_ble_eq_true rfl, Nat.le_of_ble_eq_true rfl⟩ hP hD (lit := u2) (wt := u.1 ++ [outc G ol u.2]) (wc := u2) (isC := List.range (u2).length) (gRange _) (gRange_nd _) rfl hrf3 rfl hl.1 (Nat.le_of_ble_eq_true rfl) dL_law_2088 ⟨by have h9 := hb1.2.2.1; show cells + mc + 0 + 0 ≤ 601024; omega, by have h9 := hb1.2.2.2.1; show slots + ms + 0 + 0 ≤ 7293034; omega⟩) hP hD hS (lit := u2) (wt := u.1 ++ [outc G ol u.2]) (wc := u2) (isC := List.range (u2).length) (wr := []) (isR := []) (gRange _) rfl rfl (fun _ h_ => by cases h_) (fun r3 u3 H locs hp3 hP hD hS => ?_)
  obtain ⟨rfl, hR3⟩ := hp3
  have hP : va_P G.1 vwCl (u3 ++ (u.1 ++ [outc G ol u.2])) H := hP
  have hD : va_D A (u3 ++ (u.1 ++ [outc G ol u.2])) := hD
  refine lv_iload hx hb dL_law_2091 (lv_at hl 1 rfl) ?_
  refine gIcmp_eq (a := k) (b := k) (tgt := 2098) hx hb dL_law_2093 (by decide) (by omega) (by omega) (fun _ => ?_) (fun c9 => absurd rfl c9)
  refine lv_iload hx hb dL_law_2098 (lv_at hl 1 rfl) ?_
  have fin : W p l e room_1 s m args below meth c H locs (cells + mc + 0 + 0) (slots + ms + 0 + 0) Q (F0 m 2115 ls []) := by
    refine lv_goto (tgt := 2516) hx hb dL_law_2115 (by decide) ?_
    refine W.widen (k := cells + 4) (n := slots + 528) (by have h9 := hb1.2.2.1; omega) (by have h9 := hb1.2.2.2.1; omega) ?_
    exact kk H locs ls ⟨u.1, u3, u.2, S2, k, hC2, hR3, hZs S2 v hz, gPperm List.perm_append_comm hP, gDperm List.perm_append_comm hD, hS, lv_sub hl [2, 3, 4, 5, 6] rfl⟩
  refine gIf_ne (a := k) (tgt := 2115) hx hb dL_law_2100 (by decide) (by omega) (fun _ => fin) (fun c9 => ?_)
  refine lv_aload_n hx hb dL_law_2103 rfl (lv_at hl 5 rfl) ?_
  refine lv_iconst (v := nI 0) hx hb dL_law_2104 (by decide) ?_
  have hP3 : va_P G.1 vwCl ((u3 ++ u.1) ++ [outc G ol u.2]) H := by rw [List.append_assoc]; exact hP
  refine gLald hx hb hKK.1 hP3 dL_law_2105 ?_
  refine lv_iload hx hb dL_law_2106 (lv_at hl 0 rfl) ?_
  refine lv_i2l (v := r2.toInt64) hx hb dL_law_2108 rfl ?_
  refine W.lcmp hx hb dL_law_2109 ?_
  rw [hv c9, hv2 c9, lcmp_self]
  exact lv_if_eq (tgt := 2115) hx hb dL_law_2110 (by decide) (fun _ => fin) (fun c8 => absurd rfl c8)

set_option maxHeartbeats 4000000 in
set_option maxRecDepth 100000 in
theorem cs_coinsOf {p : Program} {l : Launch} {e : Env} {s : State} {m : MethodId} {args : Array Value} {below : List Frame} {meth : Method} {c : Code} {H : Heap} {locs : List Loc} {cells slots : Nat} {Q : State → Prop} {G : gG} {A : Nat → Prop} {b L i lq mq ol : Nat} {xs : Nat → Int32} {ls : Array Slot} (F : lwF p l s m args meth c G A b L xs) (hi : i + 5 ≤ L) (hc : cells + 4 ≤ 601024) (hs : slots + 528 ≤ 7293034) (hI : lwI s G A lq mq ol b i H locs ls)
    (kk : ∀ (H : Heap) (locs : List Loc) (ls : Array Slot), lwI s G A lq mq ol b i H locs ls → W p l e room_1 s m args below meth c H locs (cells + 4) (slots + 528) Q (F0 m 2516 ls [])) : W p l e room_1 s m args below meth c H locs cells slots Q (F0 m 2118 ls []) := by
  obtain ⟨F1, hZ, hX, hbl, hbA, hL, hl9⟩ := F
  obtain ⟨wv, vv, f, S, th, hC, hR, hSp, hP, hD, hS, hl⟩ := hI
  have hx := F1.1
  have hb := F1.2.1
  have hKK := F1.2.2.2.2.2.2.2.2.1
  obtain ⟨k, Z, hk3, hZs, ⟨rm, mc, ms, hb1, hw⟩, rm2, hb2, hm⟩ := P_coinsOf l G lq ol mq (f := f) hl9 (xs (i + 1)) hC hR hSp
  refine lv_aload_n hx hb dL_law_2118 rfl (lv_at hl 1 rfl) ?_
  refine lv_aload_n hx hb dL_law_2119 rfl (lv_at hl 0 rfl) ?_
  refine lv_iload hx hb dL_law_2120 (lv_at hl 4 rfl) ?_
  refine lv_iconst (v := nI 1) hx hb dL_law_2122 (by decide) ?_
  refine gIadd (a := i) (b := 1) hx hb dL_law_2123 ?_
  refine gSld hx hb hX hbl hbA hS (i + 1) (by omega) (by omega) dL_law_2124 ?_
  refine lv_aload_n hx hb dL_law_2125 rfl (lv_at hl 3 rfl) ?_
  refine gCi F1 (gRunSW (own := RL) (bytes := cL_coinsOf) (n := 3) (As := .ref lq :: ([.int (xs (i + 1))] ++ [.ref ol])) (rest := []) F1 hZ hS (hw H.size) gL_law_L_coinsOf rfl rfl hb1.1 hb1.2.1 (by decide +kernel) rfl ⟨by have h9 := hb1.2.2.2.2.1; show rm.frames + 1 ≤ 11; omega, by have h9 := hb1.2.2.2.2.2; show 8 + (4 + 11) + rm.locals ≤ 404; omega⟩ hP hD (lit := wv ++ [outc G ol f]) (wt := vv) (wc := wv ++ [outc G ol f]) (isC := List.range (wv ++ [outc G ol f]).length) (gRange _) (gRange_nd _) rfl hl.1 (Nat.le_of_ble_eq_true rfl) dL_law_2126 ⟨by have h9 := hb1.2.2.1; show cells + mc ≤ 601024; omega, by have h9 := hb1.2.2.2.1; show slots + ms ≤ 7293034; omega⟩) hP hD hS (lit := wv ++ [outc G ol f]) (wt := vv) (wc := wv ++ [outc G ol f]) (isC := List.range (wv ++ [outc G ol f]).length) (wr := []) (isR := []) (gRange _) rfl rfl (fun _ h_ => by cases h_) (fun r u H locs hp hP hD hS => ?_)
  obtain ⟨rfl, S2, v, hz, hC2, hv⟩ := hp
  have hP : va_P G.1 vwCl ((u.1 ++ [outc G ol u.2]) ++ vv) H := hP
  have hD : va_D A ((u.1 ++ [outc G ol u.2]) ++ vv) := hD
  refine lv_istore (lv' := [(5, .int (nI k)), (0, .ref b), (1, .ref lq), (2, .ref mq), (3, .ref ol), (4, .int (nI i))]) hx hb dL_law_2129 hl (by decide) rfl (fun ls hl => ?_)
  have hP := gPperm List.perm_append_comm hP
  have hD := gDperm List.perm_append_comm hD
  obtain ⟨fs2, hrf⟩ := rf_recv hR
  refine lv_aload_n hx hb dL_law_2131 rfl (lv_at hl 3 rfl) ?_
  refine lv_aload_n hx hb dL_law_2132 rfl (lv_at hl 1 rfl) ?_
  refine lv_iload hx hb dL_law_2133 (lv_at hl 5 rfl) ?_
  refine lv_iconst (v := nI 1) hx hb dL_law_2135 (by decide) ?_
  refine gIadd (a := i) (b := 1) hx hb dL_law_2136 ?_
  refine gSld hx hb hX hbl hbA hS (i + 1) (by omega) (by omega) dL_law_2137 ?_
  refine gCi F1 (gRunV (own := RL) (C := RX4) (ci := 4) (bytes := cX4_coinsOf) (n := 1) (As := [.int (xs (i + 1))]) (rest := []) F1 (hm H.size) gL_law_X4_coinsOf rfl rfl hb2.1 hb2.2.1 (by decide +kernel) rfl ⟨by have h9 := hb2.2.2.2.2.1; show rm2.frames + 1 ≤ 11; omega, by have h9 := hb2.2.2.2.2.2; show 8 + (2 + 11) + rm2.locals ≤ 404; omega⟩ hP hD (lit := vv) (wt := u.1 ++ [outc G ol u.2]) (wc := vv) (isC := List.range (vv).length) (gRange _) (gRange_nd _) rfl hrf rfl hl.1 (Nat.le_of_ble_eq_true rfl) dL_law_2138 ⟨by have h9 := hb1.2.2.1; show cells + mc + 0 ≤ 601024; omega, by have h9 := hb1.2.2.2.1; show slots + ms + 0 ≤ 7293034; omega⟩) hP hD hS (lit := vv) (wt := u.1 ++ [outc G ol u.2]) (wc := vv) (isC := List.range (vv).length) (wr := []) (isR := []) (gRange _) rfl rfl (fun _ h_ => by cases h_) (fun r2 u2 H locs hp2 hP hD hS => ?_)
  obtain ⟨hR2, hv2⟩ := hp2 S2 v hz
  have hP : va_P G.1 vwCl (u2 ++ (u.1 ++ [outc G ol u.2])) H := hP
  have hD : va_D A (u2 ++ (u.1 ++ [outc G ol u.2])) := hD
  refine lv_istore (lv' := [(6, .int r2), (5, .int (nI k)), (0, .ref b), (1, .ref lq), (2, .ref mq), (3, .ref ol), (4, .int (nI i))]) hx hb dL_law_2141 hl (by decide) rfl (fun ls hl => ?_)
  refine lv_aload_n hx hb dL_law_2143 rfl (lv_at hl 4 rfl) ?_
  obtain ⟨fs3, hrf3⟩ := rf_recv hR2
  refine gCi F1 (gRunV (own := RL) (C := RX4) (ci := 4) (bytes := cX4_thrown) (n := 0) (As := []) (rest := []) F1 (r_thrown l G mq hR2 (hZs S2 v hz) H.size) gL_law_X4_thrown rfl rfl rfl rfl (by decide +kernel) rfl ⟨Nat.le_of_ble_eq_true rfl, Nat.le_of_ble_eq_true rfl⟩ hP hD (lit := u2) (wt := u.1 ++ [outc G ol u.2]) (wc := u2) (isC := List.range (u2).length) (gRange _) (gRange_nd _) rfl hrf3 rfl hl.1 (Nat.le_of_ble_eq_true rfl) dL_law_2144 ⟨by have h9 := hb1.2.2.1; show cells + mc + 0 + 0 ≤ 601024; omega, by have h9 := hb1.2.2.2.1; show slots + ms + 0 + 0 ≤ 7293034; omega⟩) hP hD hS (lit := u2) (wt := u.1 ++ [outc G ol u.2]) (wc := u2) (isC := List.range (u2).length) (wr := []) (isR := []) (gRange _) rfl rfl (fun _ h_ => by cases h_) (fun r3 u3 H locs hp3 hP hD hS => ?_)
  obtain ⟨rfl, hR3⟩ := hp3
  have hP : va_P G.1 vwCl (u3 ++ (u.1 ++ [outc G ol u.2])) H := hP
  have hD : va_D A (u3 ++ (u.1 ++ [outc G ol u.2])) := hD
  refine lv_iload hx hb dL_law_2147 (lv_at hl 1 rfl) ?_
  refine gIcmp_eq (a := k) (b := k) (tgt := 2154) hx hb dL_law_2149 (by decide) (by omega) (by omega) (fun _ => ?_) (fun c9 => absurd rfl c9)
  refine lv_iload hx hb dL_law_2154 (lv_at hl 1 rfl) ?_
  have fin : W p l e room_1 s m args below meth c H locs (cells + mc + 0 + 0) (slots + ms + 0 + 0) Q (F0 m 2171 ls []) := by
    refine lv_goto (tgt := 2516) hx hb dL_law_2171 (by decide) ?_
    refine W.widen (k := cells + 4) (n := slots + 528) (by have h9 := hb1.2.2.1; omega) (by have h9 := hb1.2.2.2.1; omega) ?_
    exact kk H locs ls ⟨u.1, u3, u.2, S2, k, hC2, hR3, hZs S2 v hz, gPperm List.perm_append_comm hP, gDperm List.perm_append_comm hD, hS, lv_sub hl [2, 3, 4, 5, 6] rfl⟩
  refine gIf_ne (a := k) (tgt := 2171) hx hb dL_law_2156 (by decide) (by omega) (fun _ => fin) (fun c9 => ?_)
  refine lv_aload_n hx hb dL_law_2159 rfl (lv_at hl 5 rfl) ?_
  refine lv_iconst (v := nI 0) hx hb dL_law_2160 (by decide) ?_
  have hP3 : va_P G.1 vwCl ((u3 ++ u.1) ++ [outc G ol u.2]) H := by rw [List.append_assoc]; exact hP
  refine gLald hx hb hKK.1 hP3 dL_law_2161 ?_
  refine lv_iload hx hb dL_law_2162 (lv_at hl 0 rfl) ?_
  refine lv_i2l (v := r2.toInt64) hx hb dL_law_2164 rfl ?_
  refine W.lcmp hx hb dL_law_2165 ?_
  rw [hv c9, hv2 c9, lcmp_self]
  exact lv_if_eq (tgt := 2171) hx hb dL_law_2166 (by decide) (fun _ => fin) (fun c8 => absurd rfl c8)

set_option maxHeartbeats 4000000 in
set_option maxRecDepth 100000 in
theorem cs_lowCells {p : Program} {l : Launch} {e : Env} {s : State} {m : MethodId} {args : Array Value} {below : List Frame} {meth : Method} {c : Code} {H : Heap} {locs : List Loc} {cells slots : Nat} {Q : State → Prop} {G : gG} {A : Nat → Prop} {b L i lq mq ol : Nat} {xs : Nat → Int32} {ls : Array Slot} (F : lwF p l s m args meth c G A b L xs) (hi : i + 5 ≤ L) (hc : cells + 4 ≤ 601024) (hs : slots + 528 ≤ 7293034) (hI : lwI s G A lq mq ol b i H locs ls)
    (kk : ∀ (H : Heap) (locs : List Loc) (ls : Array Slot), lwI s G A lq mq ol b i H locs ls → W p l e room_1 s m args below meth c H locs (cells + 4) (slots + 528) Q (F0 m 2516 ls [])) : W p l e room_1 s m args below meth c H locs cells slots Q (F0 m 2239 ls []) := by
  obtain ⟨F1, hZ, hX, hbl, hbA, hL, hl9⟩ := F
  obtain ⟨wv, vv, f, S, th, hC, hR, hSp, hP, hD, hS, hl⟩ := hI
  have hx := F1.1
  have hb := F1.2.1
  have hKK := F1.2.2.2.2.2.2.2.2.1
  obtain ⟨k, Z, hk3, hZs, ⟨rm, mc, ms, hb1, hw⟩, rm2, hb2, hm⟩ := P_lowCells l G lq ol mq (f := f) hl9 (xs (i + 1)) (xs (i + 2)) hC hR hSp
  refine lv_aload_n hx hb dL_law_2239 rfl (lv_at hl 1 rfl) ?_
  refine lv_aload_n hx hb dL_law_2240 rfl (lv_at hl 0 rfl) ?_
  refine lv_iload hx hb dL_law_2241 (lv_at hl 4 rfl) ?_
  refine lv_iconst (v := nI 1) hx hb dL_law_2243 (by decide) ?_
  refine gIadd (a := i) (b := 1) hx hb dL_law_2244 ?_
  refine gSld hx hb hX hbl hbA hS (i + 1) (by omega) (by omega) dL_law_2245 ?_
  refine lv_aload_n hx hb dL_law_2246 rfl (lv_at hl 0 rfl) ?_
  refine lv_iload hx hb dL_law_2247 (lv_at hl 4 rfl) ?_
  refine lv_iconst (v := nI 2) hx hb dL_law_2249 (by decide) ?_
  refine gIadd (a := i) (b := 2) hx hb dL_law_2250 ?_
  refine gSld hx hb hX hbl hbA hS (i + 2) (by omega) (by omega) dL_law_2251 ?_
  refine lv_aload_n hx hb dL_law_2252 rfl (lv_at hl 3 rfl) ?_
  refine gCi F1 (gRunSW (own := RL) (bytes := cL_lowCells) (n := 4) (As := .ref lq :: ([.int (xs (i + 1)), .int (xs (i + 2))] ++ [.ref ol])) (rest := []) F1 hZ hS (hw H.size) gL_law_L_lowCells rfl rfl hb1.1 hb1.2.1 (by decide +kernel) rfl ⟨by have h9 := hb1.2.2.2.2.1; show rm.frames + 1 ≤ 11; omega, by have h9 := hb1.2.2.2.2.2; show 8 + (5 + 11) + rm.locals ≤ 404; omega⟩ hP hD (lit := wv ++ [outc G ol f]) (wt := vv) (wc := wv ++ [outc G ol f]) (isC := List.range (wv ++ [outc G ol f]).length) (gRange _) (gRange_nd _) rfl hl.1 (Nat.le_of_ble_eq_true rfl) dL_law_2253 ⟨by have h9 := hb1.2.2.1; show cells + mc ≤ 601024; omega, by have h9 := hb1.2.2.2.1; show slots + ms ≤ 7293034; omega⟩) hP hD hS (lit := wv ++ [outc G ol f]) (wt := vv) (wc := wv ++ [outc G ol f]) (isC := List.range (wv ++ [outc G ol f]).length) (wr := []) (isR := []) (gRange _) rfl rfl (fun _ h_ => by cases h_) (fun r u H locs hp hP hD hS => ?_)
  obtain ⟨rfl, S2, v, hz, hC2, hv⟩ := hp
  have hP : va_P G.1 vwCl ((u.1 ++ [outc G ol u.2]) ++ vv) H := hP
  have hD : va_D A ((u.1 ++ [outc G ol u.2]) ++ vv) := hD
  refine lv_istore (lv' := [(5, .int (nI k)), (0, .ref b), (1, .ref lq), (2, .ref mq), (3, .ref ol), (4, .int (nI i))]) hx hb dL_law_2256 hl (by decide) rfl (fun ls hl => ?_)
  have hP := gPperm List.perm_append_comm hP
  have hD := gDperm List.perm_append_comm hD
  obtain ⟨fs2, hrf⟩ := rf_recv hR
  refine lv_aload_n hx hb dL_law_2258 rfl (lv_at hl 3 rfl) ?_
  refine lv_aload_n hx hb dL_law_2259 rfl (lv_at hl 1 rfl) ?_
  refine lv_iload hx hb dL_law_2260 (lv_at hl 5 rfl) ?_
  refine lv_iconst (v := nI 1) hx hb dL_law_2262 (by decide) ?_
  refine gIadd (a := i) (b := 1) hx hb dL_law_2263 ?_
  refine gSld hx hb hX hbl hbA hS (i + 1) (by omega) (by omega) dL_law_2264 ?_
  refine lv_aload_n hx hb dL_law_2265 rfl (lv_at hl 1 rfl) ?_
  refine lv_iload hx hb dL_law_2266 (lv_at hl 5 rfl) ?_
  refine lv_iconst (v := nI 2) hx hb dL_law_2268 (by decide) ?_
  refine gIadd (a := i) (b := 2) hx hb dL_law_2269 ?_
  refine gSld hx hb hX hbl hbA hS (i + 2) (by omega) (by omega) dL_law_2270 ?_
  refine gCi F1 (gRunV (own := RL) (C := RX4) (ci := 4) (bytes := cX4_lowCells) (n := 2) (As := [.int (xs (i + 1)), .int (xs (i + 2))]) (rest := []) F1 (hm H.size) gL_law_X4_lowCells rfl rfl hb2.1 hb2.2.1 (by decide +kernel) rfl ⟨by have h9 := hb2.2.2.2.2.1; show rm2.frames + 1 ≤ 11; omega, by have h9 := hb2.2.2.2.2.2; show 8 + (3 + 11) + rm2.locals ≤ 404; omega⟩ hP hD (lit := vv) (wt := u.1 ++ [outc G ol u.2]) (wc := vv) (isC := List.range (vv).length) (gRange _) (gRange_nd _) rfl hrf rfl hl.1 (Nat.le_of_ble_eq_true rfl) dL_law_2271 ⟨by have h9 := hb1.2.2.1; show cells + mc + 0 ≤ 601024; omega, by have h9 := hb1.2.2.2.1; show slots + ms + 0 ≤ 7293034; omega⟩) hP hD hS (lit := vv) (wt := u.1 ++ [outc G ol u.2]) (wc := vv) (isC := List.range (vv).length) (wr := []) (isR := []) (gRange _) rfl rfl (fun _ h_ => by cases h_) (fun r2 u2 H locs hp2 hP hD hS => ?_)
  obtain ⟨hR2, hv2⟩ := hp2 S2 v hz
  have hP : va_P G.1 vwCl (u2 ++ (u.1 ++ [outc G ol u.2])) H := hP
  have hD : va_D A (u2 ++ (u.1 ++ [outc G ol u.2])) := hD
  refine lv_istore (lv' := [(6, .int r2), (5, .int (nI k)), (0, .ref b), (1, .ref lq), (2, .ref mq), (3, .ref ol), (4, .int (nI i))]) hx hb dL_law_2274 hl (by decide) rfl (fun ls hl => ?_)
  refine lv_aload_n hx hb dL_law_2276 rfl (lv_at hl 4 rfl) ?_
  obtain ⟨fs3, hrf3⟩ := rf_recv hR2
  refine gCi F1 (gRunV (own := RL) (C := RX4) (ci := 4) (bytes := cX4_thrown) (n := 0) (As := []) (rest := []) F1 (r_thrown l G mq hR2 (hZs S2 v hz) H.size) gL_law_X4_thrown rfl rfl rfl rfl (by decide +kernel) rfl ⟨Nat.le_of_ble_eq_true rfl, Nat.le_of_ble_eq_true rfl⟩ hP hD (lit := u2) (wt := u.1 ++ [outc G ol u.2]) (wc := u2) (isC := List.range (u2).length) (gRange _) (gRange_nd _) rfl hrf3 rfl hl.1 (Nat.le_of_ble_eq_true rfl) dL_law_2277 ⟨by have h9 := hb1.2.2.1; show cells + mc + 0 + 0 ≤ 601024; omega, by have h9 := hb1.2.2.2.1; show slots + ms + 0 + 0 ≤ 7293034; omega⟩) hP hD hS (lit := u2) (wt := u.1 ++ [outc G ol u.2]) (wc := u2) (isC := List.range (u2).length) (wr := []) (isR := []) (gRange _) rfl rfl (fun _ h_ => by cases h_) (fun r3 u3 H locs hp3 hP hD hS => ?_)
  obtain ⟨rfl, hR3⟩ := hp3
  have hP : va_P G.1 vwCl (u3 ++ (u.1 ++ [outc G ol u.2])) H := hP
  have hD : va_D A (u3 ++ (u.1 ++ [outc G ol u.2])) := hD
  refine lv_iload hx hb dL_law_2280 (lv_at hl 1 rfl) ?_
  refine gIcmp_eq (a := k) (b := k) (tgt := 2287) hx hb dL_law_2282 (by decide) (by omega) (by omega) (fun _ => ?_) (fun c9 => absurd rfl c9)
  refine lv_iload hx hb dL_law_2287 (lv_at hl 1 rfl) ?_
  have fin : W p l e room_1 s m args below meth c H locs (cells + mc + 0 + 0) (slots + ms + 0 + 0) Q (F0 m 2304 ls []) := by
    refine lv_goto (tgt := 2516) hx hb dL_law_2304 (by decide) ?_
    refine W.widen (k := cells + 4) (n := slots + 528) (by have h9 := hb1.2.2.1; omega) (by have h9 := hb1.2.2.2.1; omega) ?_
    exact kk H locs ls ⟨u.1, u3, u.2, S2, k, hC2, hR3, hZs S2 v hz, gPperm List.perm_append_comm hP, gDperm List.perm_append_comm hD, hS, lv_sub hl [2, 3, 4, 5, 6] rfl⟩
  refine gIf_ne (a := k) (tgt := 2304) hx hb dL_law_2289 (by decide) (by omega) (fun _ => fin) (fun c9 => ?_)
  refine lv_aload_n hx hb dL_law_2292 rfl (lv_at hl 5 rfl) ?_
  refine lv_iconst (v := nI 0) hx hb dL_law_2293 (by decide) ?_
  have hP3 : va_P G.1 vwCl ((u3 ++ u.1) ++ [outc G ol u.2]) H := by rw [List.append_assoc]; exact hP
  refine gLald hx hb hKK.1 hP3 dL_law_2294 ?_
  refine lv_iload hx hb dL_law_2295 (lv_at hl 0 rfl) ?_
  refine lv_i2l (v := r2.toInt64) hx hb dL_law_2297 rfl ?_
  refine W.lcmp hx hb dL_law_2298 ?_
  rw [hv c9, hv2 c9, lcmp_self]
  exact lv_if_eq (tgt := 2304) hx hb dL_law_2299 (by decide) (fun _ => fin) (fun c8 => absurd rfl c8)

set_option maxHeartbeats 4000000 in
set_option maxRecDepth 100000 in
theorem cs_plotsIfFlooded {p : Program} {l : Launch} {e : Env} {s : State} {m : MethodId} {args : Array Value} {below : List Frame} {meth : Method} {c : Code} {H : Heap} {locs : List Loc} {cells slots : Nat} {Q : State → Prop} {G : gG} {A : Nat → Prop} {b L i lq mq ol : Nat} {xs : Nat → Int32} {ls : Array Slot} (F : lwF p l s m args meth c G A b L xs) (hi : i + 5 ≤ L) (hc : cells + 4 ≤ 601024) (hs : slots + 528 ≤ 7293034) (hI : lwI s G A lq mq ol b i H locs ls)
    (kk : ∀ (H : Heap) (locs : List Loc) (ls : Array Slot), lwI s G A lq mq ol b i H locs ls → W p l e room_1 s m args below meth c H locs (cells + 4) (slots + 528) Q (F0 m 2516 ls [])) : W p l e room_1 s m args below meth c H locs cells slots Q (F0 m 2307 ls []) := by
  obtain ⟨F1, hZ, hX, hbl, hbA, hL, hl9⟩ := F
  obtain ⟨wv, vv, f, S, th, hC, hR, hSp, hP, hD, hS, hl⟩ := hI
  have hx := F1.1
  have hb := F1.2.1
  have hKK := F1.2.2.2.2.2.2.2.2.1
  obtain ⟨k, Z, hk3, hZs, ⟨rm, mc, ms, hb1, hw⟩, rm2, hb2, hm⟩ := P_plotsIfFlooded l G lq ol mq (f := f) hl9 (xs (i + 1)) hC hR hSp
  refine lv_aload_n hx hb dL_law_2307 rfl (lv_at hl 1 rfl) ?_
  refine lv_aload_n hx hb dL_law_2308 rfl (lv_at hl 0 rfl) ?_
  refine lv_iload hx hb dL_law_2309 (lv_at hl 4 rfl) ?_
  refine lv_iconst (v := nI 1) hx hb dL_law_2311 (by decide) ?_
  refine gIadd (a := i) (b := 1) hx hb dL_law_2312 ?_
  refine gSld hx hb hX hbl hbA hS (i + 1) (by omega) (by omega) dL_law_2313 ?_
  refine lv_aload_n hx hb dL_law_2314 rfl (lv_at hl 3 rfl) ?_
  refine gCi F1 (gRunSW (own := RL) (bytes := cL_plotsIfFlooded) (n := 3) (As := .ref lq :: ([.int (xs (i + 1))] ++ [.ref ol])) (rest := []) F1 hZ hS (hw H.size) gL_law_L_plotsIfFlooded rfl rfl hb1.1 hb1.2.1 (by decide +kernel) rfl ⟨by have h9 := hb1.2.2.2.2.1; show rm.frames + 1 ≤ 11; omega, by have h9 := hb1.2.2.2.2.2; show 8 + (4 + 11) + rm.locals ≤ 404; omega⟩ hP hD (lit := wv ++ [outc G ol f]) (wt := vv) (wc := wv ++ [outc G ol f]) (isC := List.range (wv ++ [outc G ol f]).length) (gRange _) (gRange_nd _) rfl hl.1 (Nat.le_of_ble_eq_true rfl) dL_law_2315 ⟨by have h9 := hb1.2.2.1; show cells + mc ≤ 601024; omega, by have h9 := hb1.2.2.2.1; show slots + ms ≤ 7293034; omega⟩) hP hD hS (lit := wv ++ [outc G ol f]) (wt := vv) (wc := wv ++ [outc G ol f]) (isC := List.range (wv ++ [outc G ol f]).length) (wr := []) (isR := []) (gRange _) rfl rfl (fun _ h_ => by cases h_) (fun r u H locs hp hP hD hS => ?_)
  obtain ⟨rfl, S2, v, hz, hC2, hv⟩ := hp
  have hP : va_P G.1 vwCl ((u.1 ++ [outc G ol u.2]) ++ vv) H := hP
  have hD : va_D A ((u.1 ++ [outc G ol u.2]) ++ vv) := hD
  refine lv_istore (lv' := [(5, .int (nI k)), (0, .ref b), (1, .ref lq), (2, .ref mq), (3, .ref ol), (4, .int (nI i))]) hx hb dL_law_2318 hl (by decide) rfl (fun ls hl => ?_)
  have hP := gPperm List.perm_append_comm hP
  have hD := gDperm List.perm_append_comm hD
  obtain ⟨fs2, hrf⟩ := rf_recv hR
  refine lv_aload_n hx hb dL_law_2320 rfl (lv_at hl 3 rfl) ?_
  refine lv_aload_n hx hb dL_law_2321 rfl (lv_at hl 1 rfl) ?_
  refine lv_iload hx hb dL_law_2322 (lv_at hl 5 rfl) ?_
  refine lv_iconst (v := nI 1) hx hb dL_law_2324 (by decide) ?_
  refine gIadd (a := i) (b := 1) hx hb dL_law_2325 ?_
  refine gSld hx hb hX hbl hbA hS (i + 1) (by omega) (by omega) dL_law_2326 ?_
  refine gCi F1 (gRunV (own := RL) (C := RX4) (ci := 4) (bytes := cX4_plotsIfFlooded) (n := 1) (As := [.int (xs (i + 1))]) (rest := []) F1 (hm H.size) gL_law_X4_plotsIfFlooded rfl rfl hb2.1 hb2.2.1 (by decide +kernel) rfl ⟨by have h9 := hb2.2.2.2.2.1; show rm2.frames + 1 ≤ 11; omega, by have h9 := hb2.2.2.2.2.2; show 8 + (2 + 11) + rm2.locals ≤ 404; omega⟩ hP hD (lit := vv) (wt := u.1 ++ [outc G ol u.2]) (wc := vv) (isC := List.range (vv).length) (gRange _) (gRange_nd _) rfl hrf rfl hl.1 (Nat.le_of_ble_eq_true rfl) dL_law_2327 ⟨by have h9 := hb1.2.2.1; show cells + mc + 0 ≤ 601024; omega, by have h9 := hb1.2.2.2.1; show slots + ms + 0 ≤ 7293034; omega⟩) hP hD hS (lit := vv) (wt := u.1 ++ [outc G ol u.2]) (wc := vv) (isC := List.range (vv).length) (wr := []) (isR := []) (gRange _) rfl rfl (fun _ h_ => by cases h_) (fun r2 u2 H locs hp2 hP hD hS => ?_)
  obtain ⟨hR2, hv2⟩ := hp2 S2 v hz
  have hP : va_P G.1 vwCl (u2 ++ (u.1 ++ [outc G ol u.2])) H := hP
  have hD : va_D A (u2 ++ (u.1 ++ [outc G ol u.2])) := hD
  refine lv_istore (lv' := [(6, .int r2), (5, .int (nI k)), (0, .ref b), (1, .ref lq), (2, .ref mq), (3, .ref ol), (4, .int (nI i))]) hx hb dL_law_2330 hl (by decide) rfl (fun ls hl => ?_)
  refine lv_aload_n hx hb dL_law_2332 rfl (lv_at hl 4 rfl) ?_
  obtain ⟨fs3, hrf3⟩ := rf_recv hR2
  refine gCi F1 (gRunV (own := RL) (C := RX4) (ci := 4) (bytes := cX4_thrown) (n := 0) (As := []) (rest := []) F1 (r_thrown l G mq hR2 (hZs S2 v hz) H.size) gL_law_X4_thrown rfl rfl rfl rfl (by decide +kernel) rfl ⟨Nat.le_of_ble_eq_true rfl, Nat.le_of_ble_eq_true rfl⟩ hP hD (lit := u2) (wt := u.1 ++ [outc G ol u.2]) (wc := u2) (isC := List.range (u2).length) (gRange _) (gRange_nd _) rfl hrf3 rfl hl.1 (Nat.le_of_ble_eq_true rfl) dL_law_2333 ⟨by have h9 := hb1.2.2.1; show cells + mc + 0 + 0 ≤ 601024; omega, by have h9 := hb1.2.2.2.1; show slots + ms + 0 + 0 ≤ 7293034; omega⟩) hP hD hS (lit := u2) (wt := u.1 ++ [outc G ol u.2]) (wc := u2) (isC := List.range (u2).length) (wr := []) (isR := []) (gRange _) rfl rfl (fun _ h_ => by cases h_) (fun r3 u3 H locs hp3 hP hD hS => ?_)
  obtain ⟨rfl, hR3⟩ := hp3
  have hP : va_P G.1 vwCl (u3 ++ (u.1 ++ [outc G ol u.2])) H := hP
  have hD : va_D A (u3 ++ (u.1 ++ [outc G ol u.2])) := hD
  refine lv_iload hx hb dL_law_2336 (lv_at hl 1 rfl) ?_
  refine gIcmp_eq (a := k) (b := k) (tgt := 2343) hx hb dL_law_2338 (by decide) (by omega) (by omega) (fun _ => ?_) (fun c9 => absurd rfl c9)
  refine lv_iload hx hb dL_law_2343 (lv_at hl 1 rfl) ?_
  have fin : W p l e room_1 s m args below meth c H locs (cells + mc + 0 + 0) (slots + ms + 0 + 0) Q (F0 m 2360 ls []) := by
    refine lv_goto (tgt := 2516) hx hb dL_law_2360 (by decide) ?_
    refine W.widen (k := cells + 4) (n := slots + 528) (by have h9 := hb1.2.2.1; omega) (by have h9 := hb1.2.2.2.1; omega) ?_
    exact kk H locs ls ⟨u.1, u3, u.2, S2, k, hC2, hR3, hZs S2 v hz, gPperm List.perm_append_comm hP, gDperm List.perm_append_comm hD, hS, lv_sub hl [2, 3, 4, 5, 6] rfl⟩
  refine gIf_ne (a := k) (tgt := 2360) hx hb dL_law_2345 (by decide) (by omega) (fun _ => fin) (fun c9 => ?_)
  refine lv_aload_n hx hb dL_law_2348 rfl (lv_at hl 5 rfl) ?_
  refine lv_iconst (v := nI 0) hx hb dL_law_2349 (by decide) ?_
  have hP3 : va_P G.1 vwCl ((u3 ++ u.1) ++ [outc G ol u.2]) H := by rw [List.append_assoc]; exact hP
  refine gLald hx hb hKK.1 hP3 dL_law_2350 ?_
  refine lv_iload hx hb dL_law_2351 (lv_at hl 0 rfl) ?_
  refine lv_i2l (v := r2.toInt64) hx hb dL_law_2353 rfl ?_
  refine W.lcmp hx hb dL_law_2354 ?_
  rw [hv c9, hv2 c9, lcmp_self]
  exact lv_if_eq (tgt := 2360) hx hb dL_law_2355 (by decide) (fun _ => fin) (fun c8 => absurd rfl c8)

set_option maxHeartbeats 4000000 in
set_option maxRecDepth 100000 in
theorem cs_lossesIfTaxed {p : Program} {l : Launch} {e : Env} {s : State} {m : MethodId} {args : Array Value} {below : List Frame} {meth : Method} {c : Code} {H : Heap} {locs : List Loc} {cells slots : Nat} {Q : State → Prop} {G : gG} {A : Nat → Prop} {b L i lq mq ol : Nat} {xs : Nat → Int32} {ls : Array Slot} (F : lwF p l s m args meth c G A b L xs) (hi : i + 5 ≤ L) (hc : cells + 4 ≤ 601024) (hs : slots + 528 ≤ 7293034) (hI : lwI s G A lq mq ol b i H locs ls)
    (kk : ∀ (H : Heap) (locs : List Loc) (ls : Array Slot), lwI s G A lq mq ol b i H locs ls → W p l e room_1 s m args below meth c H locs (cells + 4) (slots + 528) Q (F0 m 2516 ls [])) : W p l e room_1 s m args below meth c H locs cells slots Q (F0 m 2363 ls []) := by
  obtain ⟨F1, hZ, hX, hbl, hbA, hL, hl9⟩ := F
  obtain ⟨wv, vv, f, S, th, hC, hR, hSp, hP, hD, hS, hl⟩ := hI
  have hx := F1.1
  have hb := F1.2.1
  have hKK := F1.2.2.2.2.2.2.2.2.1
  obtain ⟨k, Z, hk3, hZs, ⟨rm, mc, ms, hb1, hw⟩, rm2, hb2, hm⟩ := P_lossesIfTaxed l G lq ol mq (f := f) hl9 (xs (i + 1)) hC hR hSp
  refine lv_aload_n hx hb dL_law_2363 rfl (lv_at hl 1 rfl) ?_
  refine lv_aload_n hx hb dL_law_2364 rfl (lv_at hl 0 rfl) ?_
  refine lv_iload hx hb dL_law_2365 (lv_at hl 4 rfl) ?_
  refine lv_iconst (v := nI 1) hx hb dL_law_2367 (by decide) ?_
  refine gIadd (a := i) (b := 1) hx hb dL_law_2368 ?_
  refine gSld hx hb hX hbl hbA hS (i + 1) (by omega) (by omega) dL_law_2369 ?_
  refine lv_aload_n hx hb dL_law_2370 rfl (lv_at hl 3 rfl) ?_
  refine gCi F1 (gRunSW (own := RL) (bytes := cL_lossesIfTaxed) (n := 3) (As := .ref lq :: ([.int (xs (i + 1))] ++ [.ref ol])) (rest := []) F1 hZ hS (hw H.size) gL_law_L_lossesIfTaxed rfl rfl hb1.1 hb1.2.1 (by decide +kernel) rfl ⟨by have h9 := hb1.2.2.2.2.1; show rm.frames + 1 ≤ 11; omega, by have h9 := hb1.2.2.2.2.2; show 8 + (4 + 11) + rm.locals ≤ 404; omega⟩ hP hD (lit := wv ++ [outc G ol f]) (wt := vv) (wc := wv ++ [outc G ol f]) (isC := List.range (wv ++ [outc G ol f]).length) (gRange _) (gRange_nd _) rfl hl.1 (Nat.le_of_ble_eq_true rfl) dL_law_2371 ⟨by have h9 := hb1.2.2.1; show cells + mc ≤ 601024; omega, by have h9 := hb1.2.2.2.1; show slots + ms ≤ 7293034; omega⟩) hP hD hS (lit := wv ++ [outc G ol f]) (wt := vv) (wc := wv ++ [outc G ol f]) (isC := List.range (wv ++ [outc G ol f]).length) (wr := []) (isR := []) (gRange _) rfl rfl (fun _ h_ => by cases h_) (fun r u H locs hp hP hD hS => ?_)
  obtain ⟨rfl, S2, v, hz, hC2, hv⟩ := hp
  have hP : va_P G.1 vwCl ((u.1 ++ [outc G ol u.2]) ++ vv) H := hP
  have hD : va_D A ((u.1 ++ [outc G ol u.2]) ++ vv) := hD
  refine lv_istore (lv' := [(5, .int (nI k)), (0, .ref b), (1, .ref lq), (2, .ref mq), (3, .ref ol), (4, .int (nI i))]) hx hb dL_law_2374 hl (by decide) rfl (fun ls hl => ?_)
  have hP := gPperm List.perm_append_comm hP
  have hD := gDperm List.perm_append_comm hD
  obtain ⟨fs2, hrf⟩ := rf_recv hR
  refine lv_aload_n hx hb dL_law_2376 rfl (lv_at hl 3 rfl) ?_
  refine lv_aload_n hx hb dL_law_2377 rfl (lv_at hl 1 rfl) ?_
  refine lv_iload hx hb dL_law_2378 (lv_at hl 5 rfl) ?_
  refine lv_iconst (v := nI 1) hx hb dL_law_2380 (by decide) ?_
  refine gIadd (a := i) (b := 1) hx hb dL_law_2381 ?_
  refine gSld hx hb hX hbl hbA hS (i + 1) (by omega) (by omega) dL_law_2382 ?_
  refine gCi F1 (gRunV (own := RL) (C := RX4) (ci := 4) (bytes := cX4_lossesIfTaxed) (n := 1) (As := [.int (xs (i + 1))]) (rest := []) F1 (hm H.size) gL_law_X4_lossesIfTaxed rfl rfl hb2.1 hb2.2.1 (by decide +kernel) rfl ⟨by have h9 := hb2.2.2.2.2.1; show rm2.frames + 1 ≤ 11; omega, by have h9 := hb2.2.2.2.2.2; show 8 + (2 + 11) + rm2.locals ≤ 404; omega⟩ hP hD (lit := vv) (wt := u.1 ++ [outc G ol u.2]) (wc := vv) (isC := List.range (vv).length) (gRange _) (gRange_nd _) rfl hrf rfl hl.1 (Nat.le_of_ble_eq_true rfl) dL_law_2383 ⟨by have h9 := hb1.2.2.1; show cells + mc + 0 ≤ 601024; omega, by have h9 := hb1.2.2.2.1; show slots + ms + 0 ≤ 7293034; omega⟩) hP hD hS (lit := vv) (wt := u.1 ++ [outc G ol u.2]) (wc := vv) (isC := List.range (vv).length) (wr := []) (isR := []) (gRange _) rfl rfl (fun _ h_ => by cases h_) (fun r2 u2 H locs hp2 hP hD hS => ?_)
  obtain ⟨hR2, hv2⟩ := hp2 S2 v hz
  have hP : va_P G.1 vwCl (u2 ++ (u.1 ++ [outc G ol u.2])) H := hP
  have hD : va_D A (u2 ++ (u.1 ++ [outc G ol u.2])) := hD
  refine lv_istore (lv' := [(6, .int r2), (5, .int (nI k)), (0, .ref b), (1, .ref lq), (2, .ref mq), (3, .ref ol), (4, .int (nI i))]) hx hb dL_law_2386 hl (by decide) rfl (fun ls hl => ?_)
  refine lv_aload_n hx hb dL_law_2388 rfl (lv_at hl 4 rfl) ?_
  obtain ⟨fs3, hrf3⟩ := rf_recv hR2
  refine gCi F1 (gRunV (own := RL) (C := RX4) (ci := 4) (bytes := cX4_thrown) (n := 0) (As := []) (rest := []) F1 (r_thrown l G mq hR2 (hZs S2 v hz) H.size) gL_law_X4_thrown rfl rfl rfl rfl (by decide +kernel) rfl ⟨Nat.le_of_ble_eq_true rfl, Nat.le_of_ble_eq_true rfl⟩ hP hD (lit := u2) (wt := u.1 ++ [outc G ol u.2]) (wc := u2) (isC := List.range (u2).length) (gRange _) (gRange_nd _) rfl hrf3 rfl hl.1 (Nat.le_of_ble_eq_true rfl) dL_law_2389 ⟨by have h9 := hb1.2.2.1; show cells + mc + 0 + 0 ≤ 601024; omega, by have h9 := hb1.2.2.2.1; show slots + ms + 0 + 0 ≤ 7293034; omega⟩) hP hD hS (lit := u2) (wt := u.1 ++ [outc G ol u.2]) (wc := u2) (isC := List.range (u2).length) (wr := []) (isR := []) (gRange _) rfl rfl (fun _ h_ => by cases h_) (fun r3 u3 H locs hp3 hP hD hS => ?_)
  obtain ⟨rfl, hR3⟩ := hp3
  have hP : va_P G.1 vwCl (u3 ++ (u.1 ++ [outc G ol u.2])) H := hP
  have hD : va_D A (u3 ++ (u.1 ++ [outc G ol u.2])) := hD
  refine lv_iload hx hb dL_law_2392 (lv_at hl 1 rfl) ?_
  refine gIcmp_eq (a := k) (b := k) (tgt := 2399) hx hb dL_law_2394 (by decide) (by omega) (by omega) (fun _ => ?_) (fun c9 => absurd rfl c9)
  refine lv_iload hx hb dL_law_2399 (lv_at hl 1 rfl) ?_
  have fin : W p l e room_1 s m args below meth c H locs (cells + mc + 0 + 0) (slots + ms + 0 + 0) Q (F0 m 2416 ls []) := by
    refine lv_goto (tgt := 2516) hx hb dL_law_2416 (by decide) ?_
    refine W.widen (k := cells + 4) (n := slots + 528) (by have h9 := hb1.2.2.1; omega) (by have h9 := hb1.2.2.2.1; omega) ?_
    exact kk H locs ls ⟨u.1, u3, u.2, S2, k, hC2, hR3, hZs S2 v hz, gPperm List.perm_append_comm hP, gDperm List.perm_append_comm hD, hS, lv_sub hl [2, 3, 4, 5, 6] rfl⟩
  refine gIf_ne (a := k) (tgt := 2416) hx hb dL_law_2401 (by decide) (by omega) (fun _ => fin) (fun c9 => ?_)
  refine lv_aload_n hx hb dL_law_2404 rfl (lv_at hl 5 rfl) ?_
  refine lv_iconst (v := nI 0) hx hb dL_law_2405 (by decide) ?_
  have hP3 : va_P G.1 vwCl ((u3 ++ u.1) ++ [outc G ol u.2]) H := by rw [List.append_assoc]; exact hP
  refine gLald hx hb hKK.1 hP3 dL_law_2406 ?_
  refine lv_iload hx hb dL_law_2407 (lv_at hl 0 rfl) ?_
  refine lv_i2l (v := r2.toInt64) hx hb dL_law_2409 rfl ?_
  refine W.lcmp hx hb dL_law_2410 ?_
  rw [hv c9, hv2 c9, lcmp_self]
  exact lv_if_eq (tgt := 2416) hx hb dL_law_2411 (by decide) (fun _ => fin) (fun c8 => absurd rfl c8)

set_option maxHeartbeats 4000000 in
set_option maxRecDepth 100000 in
theorem cs_nearestNeighbour {p : Program} {l : Launch} {e : Env} {s : State} {m : MethodId} {args : Array Value} {below : List Frame} {meth : Method} {c : Code} {H : Heap} {locs : List Loc} {cells slots : Nat} {Q : State → Prop} {G : gG} {A : Nat → Prop} {b L i lq mq ol : Nat} {xs : Nat → Int32} {ls : Array Slot} (F : lwF p l s m args meth c G A b L xs) (hi : i + 5 ≤ L) (hc : cells + 4 ≤ 601024) (hs : slots + 528 ≤ 7293034) (hI : lwI s G A lq mq ol b i H locs ls)
    (kk : ∀ (H : Heap) (locs : List Loc) (ls : Array Slot), lwI s G A lq mq ol b i H locs ls → W p l e room_1 s m args below meth c H locs (cells + 4) (slots + 528) Q (F0 m 2516 ls [])) : W p l e room_1 s m args below meth c H locs cells slots Q (F0 m 2419 ls []) := by
  obtain ⟨F1, hZ, hX, hbl, hbA, hL, hl9⟩ := F
  obtain ⟨wv, vv, f, S, th, hC, hR, hSp, hP, hD, hS, hl⟩ := hI
  have hx := F1.1
  have hb := F1.2.1
  have hKK := F1.2.2.2.2.2.2.2.2.1
  obtain ⟨k, Z, hk3, hZs, ⟨rm, mc, ms, hb1, hw⟩, rm2, hb2, hm⟩ := P_nearestNeighbour l G lq ol mq (f := f) hl9 (xs (i + 1)) hC hR hSp
  refine lv_aload_n hx hb dL_law_2419 rfl (lv_at hl 1 rfl) ?_
  refine lv_aload_n hx hb dL_law_2420 rfl (lv_at hl 0 rfl) ?_
  refine lv_iload hx hb dL_law_2421 (lv_at hl 4 rfl) ?_
  refine lv_iconst (v := nI 1) hx hb dL_law_2423 (by decide) ?_
  refine gIadd (a := i) (b := 1) hx hb dL_law_2424 ?_
  refine gSld hx hb hX hbl hbA hS (i + 1) (by omega) (by omega) dL_law_2425 ?_
  refine lv_aload_n hx hb dL_law_2426 rfl (lv_at hl 3 rfl) ?_
  refine gCi F1 (gRunSW (own := RL) (bytes := cL_nearestNeighbour) (n := 3) (As := .ref lq :: ([.int (xs (i + 1))] ++ [.ref ol])) (rest := []) F1 hZ hS (hw H.size) gL_law_L_nearestNeighbour rfl rfl hb1.1 hb1.2.1 (by decide +kernel) rfl ⟨by have h9 := hb1.2.2.2.2.1; show rm.frames + 1 ≤ 11; omega, by have h9 := hb1.2.2.2.2.2; show 8 + (4 + 11) + rm.locals ≤ 404; omega⟩ hP hD (lit := wv ++ [outc G ol f]) (wt := vv) (wc := wv ++ [outc G ol f]) (isC := List.range (wv ++ [outc G ol f]).length) (gRange _) (gRange_nd _) rfl hl.1 (Nat.le_of_ble_eq_true rfl) dL_law_2427 ⟨by have h9 := hb1.2.2.1; show cells + mc ≤ 601024; omega, by have h9 := hb1.2.2.2.1; show slots + ms ≤ 7293034; omega⟩) hP hD hS (lit := wv ++ [outc G ol f]) (wt := vv) (wc := wv ++ [outc G ol f]) (isC := List.range (wv ++ [outc G ol f]).length) (wr := []) (isR := []) (gRange _) rfl rfl (fun _ h_ => by cases h_) (fun r u H locs hp hP hD hS => ?_)
  obtain ⟨rfl, S2, v, hz, hC2, hv⟩ := hp
  have hP : va_P G.1 vwCl ((u.1 ++ [outc G ol u.2]) ++ vv) H := hP
  have hD : va_D A ((u.1 ++ [outc G ol u.2]) ++ vv) := hD
  refine lv_istore (lv' := [(5, .int (nI k)), (0, .ref b), (1, .ref lq), (2, .ref mq), (3, .ref ol), (4, .int (nI i))]) hx hb dL_law_2430 hl (by decide) rfl (fun ls hl => ?_)
  have hP := gPperm List.perm_append_comm hP
  have hD := gDperm List.perm_append_comm hD
  obtain ⟨fs2, hrf⟩ := rf_recv hR
  refine lv_aload_n hx hb dL_law_2432 rfl (lv_at hl 3 rfl) ?_
  refine lv_aload_n hx hb dL_law_2433 rfl (lv_at hl 1 rfl) ?_
  refine lv_iload hx hb dL_law_2434 (lv_at hl 5 rfl) ?_
  refine lv_iconst (v := nI 1) hx hb dL_law_2436 (by decide) ?_
  refine gIadd (a := i) (b := 1) hx hb dL_law_2437 ?_
  refine gSld hx hb hX hbl hbA hS (i + 1) (by omega) (by omega) dL_law_2438 ?_
  refine gCi F1 (gRunV (own := RL) (C := RX4) (ci := 4) (bytes := cX4_nearestNeighbour) (n := 1) (As := [.int (xs (i + 1))]) (rest := []) F1 (hm H.size) gL_law_X4_nearestNeighbour rfl rfl hb2.1 hb2.2.1 (by decide +kernel) rfl ⟨by have h9 := hb2.2.2.2.2.1; show rm2.frames + 1 ≤ 11; omega, by have h9 := hb2.2.2.2.2.2; show 8 + (2 + 11) + rm2.locals ≤ 404; omega⟩ hP hD (lit := vv) (wt := u.1 ++ [outc G ol u.2]) (wc := vv) (isC := List.range (vv).length) (gRange _) (gRange_nd _) rfl hrf rfl hl.1 (Nat.le_of_ble_eq_true rfl) dL_law_2439 ⟨by have h9 := hb1.2.2.1; show cells + mc + 0 ≤ 601024; omega, by have h9 := hb1.2.2.2.1; show slots + ms + 0 ≤ 7293034; omega⟩) hP hD hS (lit := vv) (wt := u.1 ++ [outc G ol u.2]) (wc := vv) (isC := List.range (vv).length) (wr := []) (isR := []) (gRange _) rfl rfl (fun _ h_ => by cases h_) (fun r2 u2 H locs hp2 hP hD hS => ?_)
  obtain ⟨hR2, hv2⟩ := hp2 S2 v hz
  have hP : va_P G.1 vwCl (u2 ++ (u.1 ++ [outc G ol u.2])) H := hP
  have hD : va_D A (u2 ++ (u.1 ++ [outc G ol u.2])) := hD
  refine lv_istore (lv' := [(6, .int r2), (5, .int (nI k)), (0, .ref b), (1, .ref lq), (2, .ref mq), (3, .ref ol), (4, .int (nI i))]) hx hb dL_law_2442 hl (by decide) rfl (fun ls hl => ?_)
  refine lv_aload_n hx hb dL_law_2444 rfl (lv_at hl 4 rfl) ?_
  obtain ⟨fs3, hrf3⟩ := rf_recv hR2
  refine gCi F1 (gRunV (own := RL) (C := RX4) (ci := 4) (bytes := cX4_thrown) (n := 0) (As := []) (rest := []) F1 (r_thrown l G mq hR2 (hZs S2 v hz) H.size) gL_law_X4_thrown rfl rfl rfl rfl (by decide +kernel) rfl ⟨Nat.le_of_ble_eq_true rfl, Nat.le_of_ble_eq_true rfl⟩ hP hD (lit := u2) (wt := u.1 ++ [outc G ol u.2]) (wc := u2) (isC := List.range (u2).length) (gRange _) (gRange_nd _) rfl hrf3 rfl hl.1 (Nat.le_of_ble_eq_true rfl) dL_law_2445 ⟨by have h9 := hb1.2.2.1; show cells + mc + 0 + 0 ≤ 601024; omega, by have h9 := hb1.2.2.2.1; show slots + ms + 0 + 0 ≤ 7293034; omega⟩) hP hD hS (lit := u2) (wt := u.1 ++ [outc G ol u.2]) (wc := u2) (isC := List.range (u2).length) (wr := []) (isR := []) (gRange _) rfl rfl (fun _ h_ => by cases h_) (fun r3 u3 H locs hp3 hP hD hS => ?_)
  obtain ⟨rfl, hR3⟩ := hp3
  have hP : va_P G.1 vwCl (u3 ++ (u.1 ++ [outc G ol u.2])) H := hP
  have hD : va_D A (u3 ++ (u.1 ++ [outc G ol u.2])) := hD
  refine lv_iload hx hb dL_law_2448 (lv_at hl 1 rfl) ?_
  refine gIcmp_eq (a := k) (b := k) (tgt := 2455) hx hb dL_law_2450 (by decide) (by omega) (by omega) (fun _ => ?_) (fun c9 => absurd rfl c9)
  refine lv_iload hx hb dL_law_2455 (lv_at hl 1 rfl) ?_
  have fin : W p l e room_1 s m args below meth c H locs (cells + mc + 0 + 0) (slots + ms + 0 + 0) Q (F0 m 2472 ls []) := by
    refine lv_goto (tgt := 2516) hx hb dL_law_2472 (by decide) ?_
    refine W.widen (k := cells + 4) (n := slots + 528) (by have h9 := hb1.2.2.1; omega) (by have h9 := hb1.2.2.2.1; omega) ?_
    exact kk H locs ls ⟨u.1, u3, u.2, S2, k, hC2, hR3, hZs S2 v hz, gPperm List.perm_append_comm hP, gDperm List.perm_append_comm hD, hS, lv_sub hl [2, 3, 4, 5, 6] rfl⟩
  refine gIf_ne (a := k) (tgt := 2472) hx hb dL_law_2457 (by decide) (by omega) (fun _ => fin) (fun c9 => ?_)
  refine lv_aload_n hx hb dL_law_2460 rfl (lv_at hl 5 rfl) ?_
  refine lv_iconst (v := nI 0) hx hb dL_law_2461 (by decide) ?_
  have hP3 : va_P G.1 vwCl ((u3 ++ u.1) ++ [outc G ol u.2]) H := by rw [List.append_assoc]; exact hP
  refine gLald hx hb hKK.1 hP3 dL_law_2462 ?_
  refine lv_iload hx hb dL_law_2463 (lv_at hl 0 rfl) ?_
  refine lv_i2l (v := r2.toInt64) hx hb dL_law_2465 rfl ?_
  refine W.lcmp hx hb dL_law_2466 ?_
  rw [hv c9, hv2 c9, lcmp_self]
  exact lv_if_eq (tgt := 2472) hx hb dL_law_2467 (by decide) (fun _ => fin) (fun c8 => absurd rfl c8)

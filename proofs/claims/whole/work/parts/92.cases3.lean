set_option maxHeartbeats 4000000 in
set_option maxRecDepth 100000 in
theorem cs_collectTaxes {p : Program} {l : Launch} {e : Env} {s : State} {m : MethodId} {args : Array Value} {below : List Frame} {meth : Method} {c : Code} {H : Heap} {locs : List Loc} {cells slots : Nat} {Q : State → Prop} {G : gG} {A : Nat → Prop} {b L i lq mq ol : Nat} {xs : Nat → Int32} {ls : Array Slot} (F : lwF p l s m args meth c G A b L xs) (hi : i + 5 ≤ L) (hc : cells + 4 ≤ 601024) (hs : slots + 528 ≤ 7293034) (hI : lwI s G A lq mq ol b i H locs ls)
    (kk : ∀ (H : Heap) (locs : List Loc) (ls : Array Slot), lwI s G A lq mq ol b i H locs ls → W p l e room_1 s m args below meth c H locs (cells + 4) (slots + 528) Q (F0 m 2516 ls [])) : W p l e room_1 s m args below meth c H locs cells slots Q (F0 m 648 ls []) := by
  obtain ⟨F1, hZ, hX, hbl, hbA, hL, hl9⟩ := F
  obtain ⟨wv, vv, f, S, th, hC, hR, hSp, hP, hD, hS, hl⟩ := hI
  have hx := F1.1
  have hb := F1.2.1
  have hKK := F1.2.2.2.2.2.2.2.2.1
  obtain ⟨Z, hZs, ⟨rm, mc, ms, hb1, hw⟩, rm2, hb2, hm⟩ := P_collectTaxes l G lq mq hC hR hSp
  refine lv_aload_n hx hb dL_law_648 rfl (lv_at hl 1 rfl) ?_
  obtain ⟨fs1, hcl⟩ := cl_recv hC
  obtain ⟨fs2, hrf⟩ := rf_recv hR
  have hP : va_P G.1 vwCl (wv ++ ([outc G ol f] ++ vv)) H := by rw [← List.append_assoc]; exact hP
  have hD : va_D A (wv ++ ([outc G ol f] ++ vv)) := by rw [← List.append_assoc]; exact hD
  refine gCi F1 (gRunV (own := RL) (C := RX3) (ci := 3) (bytes := cX3_collectTaxes) (n := 0) (As := []) (rest := []) F1 (hw H.size) gL_law_X3_collectTaxes rfl rfl hb1.1 hb1.2.1 (by decide +kernel) rfl ⟨by have h9 := hb1.2.2.2.2.1; show rm.frames + 1 ≤ 11; omega, by have h9 := hb1.2.2.2.2.2; show 8 + (2 + 11) + rm.locals ≤ 404; omega⟩ hP hD (lit := wv) (wt := [outc G ol f] ++ vv) (wc := wv) (isC := List.range wv.length) (gRange _) (gRange_nd _) rfl hcl rfl hl.1 (Nat.le_of_ble_eq_true rfl) dL_law_649 ⟨by have h9 := hb1.2.2.1; show cells + mc ≤ 601024; omega, by have h9 := hb1.2.2.2.1; show slots + ms ≤ 7293034; omega⟩) hP hD hS (lit := wv) (wt := [outc G ol f] ++ vv) (wc := wv) (isC := List.range wv.length) (wr := []) (isR := []) (gRange _) rfl rfl (fun _ h_ => by cases h_) (fun r u H locs hp hP hD hS => ?_)
  obtain ⟨S2, hz, hC2⟩ := hp
  have hP : va_P G.1 vwCl ((u ++ [outc G ol f]) ++ vv) H := by rw [List.append_assoc]; exact hP
  have hD : va_D A ((u ++ [outc G ol f]) ++ vv) := by rw [List.append_assoc]; exact hD
  have hP := gPperm List.perm_append_comm hP
  have hD := gDperm List.perm_append_comm hD
  refine lv_aload_n hx hb dL_law_652 rfl (lv_at hl 2 rfl) ?_
  refine gCi F1 (gRunV (own := RL) (C := RX4) (ci := 4) (bytes := cX4_collectTaxes) (n := 0) (As := []) (rest := [.int r]) F1 (hm H.size) gL_law_X4_collectTaxes rfl rfl hb2.1 hb2.2.1 (by decide +kernel) rfl ⟨by have h9 := hb2.2.2.2.2.1; show rm2.frames + 1 ≤ 11; omega, by have h9 := hb2.2.2.2.2.2; show 8 + (1 + 11) + rm2.locals ≤ 404; omega⟩ hP hD (lit := vv) (wt := u ++ [outc G ol f]) (wc := vv) (isC := List.range vv.length) (gRange _) (gRange_nd _) rfl hrf rfl hl.1 (Nat.le_of_ble_eq_true rfl) dL_law_653 ⟨by have h9 := hb1.2.2.1; show cells + mc + 0 ≤ 601024; omega, by have h9 := hb1.2.2.2.1; show slots + ms + 0 ≤ 7293034; omega⟩) hP hD hS (lit := vv) (wt := u ++ [outc G ol f]) (wc := vv) (isC := List.range vv.length) (wr := []) (isR := []) (gRange _) rfl rfl (fun _ h_ => by cases h_) (fun r2 u2 H locs hp2 hP hD hS => ?_)
  obtain ⟨hR2, hv2⟩ := hp2 S2 r hz
  have hP : va_P G.1 vwCl (u2 ++ (u ++ [outc G ol f])) H := hP
  have hD : va_D A (u2 ++ (u ++ [outc G ol f])) := hD
  refine lv_icmp_eq (tgt := 2516) hx hb dL_law_656 (by decide) (fun _ => ?_) (fun c9 => absurd hv2.symm c9)
  refine W.widen (k := cells + 4) (n := slots + 528) (by have h9 := hb1.2.2.1; omega) (by have h9 := hb1.2.2.2.1; omega) ?_
  exact kk H locs ls ⟨u, u2, f, S2, 0, hC2, hR2, hZs S2 r hz, gPperm List.perm_append_comm hP, gDperm List.perm_append_comm hD, hS, hl⟩

set_option maxHeartbeats 4000000 in
set_option maxRecDepth 100000 in
theorem cs_clearBuffer {p : Program} {l : Launch} {e : Env} {s : State} {m : MethodId} {args : Array Value} {below : List Frame} {meth : Method} {c : Code} {H : Heap} {locs : List Loc} {cells slots : Nat} {Q : State → Prop} {G : gG} {A : Nat → Prop} {b L i lq mq ol : Nat} {xs : Nat → Int32} {ls : Array Slot} (F : lwF p l s m args meth c G A b L xs) (hi : i + 5 ≤ L) (hc : cells + 4 ≤ 601024) (hs : slots + 528 ≤ 7293034) (hI : lwI s G A lq mq ol b i H locs ls)
    (kk : ∀ (H : Heap) (locs : List Loc) (ls : Array Slot), lwI s G A lq mq ol b i H locs ls → W p l e room_1 s m args below meth c H locs (cells + 4) (slots + 528) Q (F0 m 2516 ls [])) : W p l e room_1 s m args below meth c H locs cells slots Q (F0 m 829 ls []) := by
  obtain ⟨F1, hZ, hX, hbl, hbA, hL, hl9⟩ := F
  obtain ⟨wv, vv, f, S, th, hC, hR, hSp, hP, hD, hS, hl⟩ := hI
  have hx := F1.1
  have hb := F1.2.1
  have hKK := F1.2.2.2.2.2.2.2.2.1
  obtain ⟨Z, hZs, ⟨rm, mc, ms, hb1, hw⟩, rm2, hb2, hm⟩ := P_clearBuffer l G lq mq hC hR hSp
  refine lv_aload_n hx hb dL_law_829 rfl (lv_at hl 1 rfl) ?_
  obtain ⟨fs1, hcl⟩ := cl_recv hC
  obtain ⟨fs2, hrf⟩ := rf_recv hR
  have hP : va_P G.1 vwCl (wv ++ ([outc G ol f] ++ vv)) H := by rw [← List.append_assoc]; exact hP
  have hD : va_D A (wv ++ ([outc G ol f] ++ vv)) := by rw [← List.append_assoc]; exact hD
  refine gCi F1 (gRunV (own := RL) (C := RX3) (ci := 3) (bytes := cX3_clearBuffer) (n := 0) (As := []) (rest := []) F1 (hw H.size) gL_law_X3_clearBuffer rfl rfl hb1.1 hb1.2.1 (by decide +kernel) rfl ⟨by have h9 := hb1.2.2.2.2.1; show rm.frames + 1 ≤ 11; omega, by have h9 := hb1.2.2.2.2.2; show 8 + (2 + 11) + rm.locals ≤ 404; omega⟩ hP hD (lit := wv) (wt := [outc G ol f] ++ vv) (wc := wv) (isC := List.range wv.length) (gRange _) (gRange_nd _) rfl hcl rfl hl.1 (Nat.le_of_ble_eq_true rfl) dL_law_830 ⟨by have h9 := hb1.2.2.1; show cells + mc ≤ 601024; omega, by have h9 := hb1.2.2.2.1; show slots + ms ≤ 7293034; omega⟩) hP hD hS (lit := wv) (wt := [outc G ol f] ++ vv) (wc := wv) (isC := List.range wv.length) (wr := []) (isR := []) (gRange _) rfl rfl (fun _ h_ => by cases h_) (fun r u H locs hp hP hD hS => ?_)
  obtain ⟨S2, hz, hC2⟩ := hp
  have hP : va_P G.1 vwCl ((u ++ [outc G ol f]) ++ vv) H := by rw [List.append_assoc]; exact hP
  have hD : va_D A ((u ++ [outc G ol f]) ++ vv) := by rw [List.append_assoc]; exact hD
  have hP := gPperm List.perm_append_comm hP
  have hD := gDperm List.perm_append_comm hD
  refine lv_aload_n hx hb dL_law_833 rfl (lv_at hl 2 rfl) ?_
  refine gCi F1 (gRunV (own := RL) (C := RX4) (ci := 4) (bytes := cX4_clearBuffer) (n := 0) (As := []) (rest := [.int r]) F1 (hm H.size) gL_law_X4_clearBuffer rfl rfl hb2.1 hb2.2.1 (by decide +kernel) rfl ⟨by have h9 := hb2.2.2.2.2.1; show rm2.frames + 1 ≤ 11; omega, by have h9 := hb2.2.2.2.2.2; show 8 + (2 + 11) + rm2.locals ≤ 404; omega⟩ hP hD (lit := vv) (wt := u ++ [outc G ol f]) (wc := vv) (isC := List.range vv.length) (gRange _) (gRange_nd _) rfl hrf rfl hl.1 (Nat.le_of_ble_eq_true rfl) dL_law_834 ⟨by have h9 := hb1.2.2.1; show cells + mc + 0 ≤ 601024; omega, by have h9 := hb1.2.2.2.1; show slots + ms + 0 ≤ 7293034; omega⟩) hP hD hS (lit := vv) (wt := u ++ [outc G ol f]) (wc := vv) (isC := List.range vv.length) (wr := []) (isR := []) (gRange _) rfl rfl (fun _ h_ => by cases h_) (fun r2 u2 H locs hp2 hP hD hS => ?_)
  obtain ⟨hR2, hv2⟩ := hp2 S2 r hz
  have hP : va_P G.1 vwCl (u2 ++ (u ++ [outc G ol f])) H := hP
  have hD : va_D A (u2 ++ (u ++ [outc G ol f])) := hD
  refine lv_icmp_eq (tgt := 2516) hx hb dL_law_837 (by decide) (fun _ => ?_) (fun c9 => absurd hv2.symm c9)
  refine W.widen (k := cells + 4) (n := slots + 528) (by have h9 := hb1.2.2.1; omega) (by have h9 := hb1.2.2.2.1; omega) ?_
  exact kk H locs ls ⟨u, u2, f, S2, 0, hC2, hR2, hZs S2 r hz, gPperm List.perm_append_comm hP, gDperm List.perm_append_comm hD, hS, hl⟩

set_option maxHeartbeats 4000000 in
set_option maxRecDepth 100000 in
theorem cs_bufferLength {p : Program} {l : Launch} {e : Env} {s : State} {m : MethodId} {args : Array Value} {below : List Frame} {meth : Method} {c : Code} {H : Heap} {locs : List Loc} {cells slots : Nat} {Q : State → Prop} {G : gG} {A : Nat → Prop} {b L i lq mq ol : Nat} {xs : Nat → Int32} {ls : Array Slot} (F : lwF p l s m args meth c G A b L xs) (hi : i + 5 ≤ L) (hc : cells + 4 ≤ 601024) (hs : slots + 528 ≤ 7293034) (hI : lwI s G A lq mq ol b i H locs ls)
    (kk : ∀ (H : Heap) (locs : List Loc) (ls : Array Slot), lwI s G A lq mq ol b i H locs ls → W p l e room_1 s m args below meth c H locs (cells + 4) (slots + 528) Q (F0 m 2516 ls [])) : W p l e room_1 s m args below meth c H locs cells slots Q (F0 m 842 ls []) := by
  obtain ⟨F1, hZ, hX, hbl, hbA, hL, hl9⟩ := F
  obtain ⟨wv, vv, f, S, th, hC, hR, hSp, hP, hD, hS, hl⟩ := hI
  have hx := F1.1
  have hb := F1.2.1
  have hKK := F1.2.2.2.2.2.2.2.2.1
  obtain ⟨Z, hZs, ⟨rm, mc, ms, hb1, hw⟩, rm2, hb2, hm⟩ := P_bufferLength l G lq mq hC hR hSp
  refine lv_aload_n hx hb dL_law_842 rfl (lv_at hl 1 rfl) ?_
  obtain ⟨fs1, hcl⟩ := cl_recv hC
  obtain ⟨fs2, hrf⟩ := rf_recv hR
  have hP : va_P G.1 vwCl (wv ++ ([outc G ol f] ++ vv)) H := by rw [← List.append_assoc]; exact hP
  have hD : va_D A (wv ++ ([outc G ol f] ++ vv)) := by rw [← List.append_assoc]; exact hD
  refine gCi F1 (gRunV (own := RL) (C := RX3) (ci := 3) (bytes := cX3_bufferLength) (n := 0) (As := []) (rest := []) F1 (hw H.size) gL_law_X3_bufferLength rfl rfl hb1.1 hb1.2.1 (by decide +kernel) rfl ⟨by have h9 := hb1.2.2.2.2.1; show rm.frames + 1 ≤ 11; omega, by have h9 := hb1.2.2.2.2.2; show 8 + (1 + 11) + rm.locals ≤ 404; omega⟩ hP hD (lit := wv) (wt := [outc G ol f] ++ vv) (wc := wv) (isC := List.range wv.length) (gRange _) (gRange_nd _) rfl hcl rfl hl.1 (Nat.le_of_ble_eq_true rfl) dL_law_843 ⟨by have h9 := hb1.2.2.1; show cells + mc ≤ 601024; omega, by have h9 := hb1.2.2.2.1; show slots + ms ≤ 7293034; omega⟩) hP hD hS (lit := wv) (wt := [outc G ol f] ++ vv) (wc := wv) (isC := List.range wv.length) (wr := []) (isR := []) (gRange _) rfl rfl (fun _ h_ => by cases h_) (fun r u H locs hp hP hD hS => ?_)
  obtain ⟨S2, hz, hC2⟩ := hp
  have hP : va_P G.1 vwCl ((u ++ [outc G ol f]) ++ vv) H := by rw [List.append_assoc]; exact hP
  have hD : va_D A ((u ++ [outc G ol f]) ++ vv) := by rw [List.append_assoc]; exact hD
  have hP := gPperm List.perm_append_comm hP
  have hD := gDperm List.perm_append_comm hD
  refine lv_aload_n hx hb dL_law_846 rfl (lv_at hl 2 rfl) ?_
  refine gCi F1 (gRunV (own := RL) (C := RX4) (ci := 4) (bytes := cX4_bufferLength) (n := 0) (As := []) (rest := [.int r]) F1 (hm H.size) gL_law_X4_bufferLength rfl rfl hb2.1 hb2.2.1 (by decide +kernel) rfl ⟨by have h9 := hb2.2.2.2.2.1; show rm2.frames + 1 ≤ 11; omega, by have h9 := hb2.2.2.2.2.2; show 8 + (1 + 11) + rm2.locals ≤ 404; omega⟩ hP hD (lit := vv) (wt := u ++ [outc G ol f]) (wc := vv) (isC := List.range vv.length) (gRange _) (gRange_nd _) rfl hrf rfl hl.1 (Nat.le_of_ble_eq_true rfl) dL_law_847 ⟨by have h9 := hb1.2.2.1; show cells + mc + 0 ≤ 601024; omega, by have h9 := hb1.2.2.2.1; show slots + ms + 0 ≤ 7293034; omega⟩) hP hD hS (lit := vv) (wt := u ++ [outc G ol f]) (wc := vv) (isC := List.range vv.length) (wr := []) (isR := []) (gRange _) rfl rfl (fun _ h_ => by cases h_) (fun r2 u2 H locs hp2 hP hD hS => ?_)
  obtain ⟨hR2, hv2⟩ := hp2 S2 r hz
  have hP : va_P G.1 vwCl (u2 ++ (u ++ [outc G ol f])) H := hP
  have hD : va_D A (u2 ++ (u ++ [outc G ol f])) := hD
  refine lv_icmp_eq (tgt := 2516) hx hb dL_law_850 (by decide) (fun _ => ?_) (fun c9 => absurd hv2.symm c9)
  refine W.widen (k := cells + 4) (n := slots + 528) (by have h9 := hb1.2.2.1; omega) (by have h9 := hb1.2.2.2.1; omega) ?_
  exact kk H locs ls ⟨u, u2, f, S2, 0, hC2, hR2, hZs S2 r hz, gPperm List.perm_append_comm hP, gDperm List.perm_append_comm hD, hS, hl⟩

set_option maxHeartbeats 4000000 in
set_option maxRecDepth 100000 in
theorem cs_firstError {p : Program} {l : Launch} {e : Env} {s : State} {m : MethodId} {args : Array Value} {below : List Frame} {meth : Method} {c : Code} {H : Heap} {locs : List Loc} {cells slots : Nat} {Q : State → Prop} {G : gG} {A : Nat → Prop} {b L i lq mq ol : Nat} {xs : Nat → Int32} {ls : Array Slot} (F : lwF p l s m args meth c G A b L xs) (hi : i + 5 ≤ L) (hc : cells + 4 ≤ 601024) (hs : slots + 528 ≤ 7293034) (hI : lwI s G A lq mq ol b i H locs ls)
    (kk : ∀ (H : Heap) (locs : List Loc) (ls : Array Slot), lwI s G A lq mq ol b i H locs ls → W p l e room_1 s m args below meth c H locs (cells + 4) (slots + 528) Q (F0 m 2516 ls [])) : W p l e room_1 s m args below meth c H locs cells slots Q (F0 m 855 ls []) := by
  obtain ⟨F1, hZ, hX, hbl, hbA, hL, hl9⟩ := F
  obtain ⟨wv, vv, f, S, th, hC, hR, hSp, hP, hD, hS, hl⟩ := hI
  have hx := F1.1
  have hb := F1.2.1
  have hKK := F1.2.2.2.2.2.2.2.2.1
  obtain ⟨Z, hZs, ⟨rm, mc, ms, hb1, hw⟩, rm2, hb2, hm⟩ := P_firstError l G lq mq hC hR hSp
  refine lv_aload_n hx hb dL_law_855 rfl (lv_at hl 1 rfl) ?_
  obtain ⟨fs1, hcl⟩ := cl_recv hC
  obtain ⟨fs2, hrf⟩ := rf_recv hR
  have hP : va_P G.1 vwCl (wv ++ ([outc G ol f] ++ vv)) H := by rw [← List.append_assoc]; exact hP
  have hD : va_D A (wv ++ ([outc G ol f] ++ vv)) := by rw [← List.append_assoc]; exact hD
  refine gCi F1 (gRunV (own := RL) (C := RX3) (ci := 3) (bytes := cX3_firstError) (n := 0) (As := []) (rest := []) F1 (hw H.size) gL_law_X3_firstError rfl rfl hb1.1 hb1.2.1 (by decide +kernel) rfl ⟨by have h9 := hb1.2.2.2.2.1; show rm.frames + 1 ≤ 11; omega, by have h9 := hb1.2.2.2.2.2; show 8 + (1 + 11) + rm.locals ≤ 404; omega⟩ hP hD (lit := wv) (wt := [outc G ol f] ++ vv) (wc := wv) (isC := List.range wv.length) (gRange _) (gRange_nd _) rfl hcl rfl hl.1 (Nat.le_of_ble_eq_true rfl) dL_law_856 ⟨by have h9 := hb1.2.2.1; show cells + mc ≤ 601024; omega, by have h9 := hb1.2.2.2.1; show slots + ms ≤ 7293034; omega⟩) hP hD hS (lit := wv) (wt := [outc G ol f] ++ vv) (wc := wv) (isC := List.range wv.length) (wr := []) (isR := []) (gRange _) rfl rfl (fun _ h_ => by cases h_) (fun r u H locs hp hP hD hS => ?_)
  obtain ⟨S2, hz, hC2⟩ := hp
  have hP : va_P G.1 vwCl ((u ++ [outc G ol f]) ++ vv) H := by rw [List.append_assoc]; exact hP
  have hD : va_D A ((u ++ [outc G ol f]) ++ vv) := by rw [List.append_assoc]; exact hD
  have hP := gPperm List.perm_append_comm hP
  have hD := gDperm List.perm_append_comm hD
  refine lv_aload_n hx hb dL_law_859 rfl (lv_at hl 2 rfl) ?_
  refine gCi F1 (gRunV (own := RL) (C := RX4) (ci := 4) (bytes := cX4_firstError) (n := 0) (As := []) (rest := [.int r]) F1 (hm H.size) gL_law_X4_firstError rfl rfl hb2.1 hb2.2.1 (by decide +kernel) rfl ⟨by have h9 := hb2.2.2.2.2.1; show rm2.frames + 1 ≤ 11; omega, by have h9 := hb2.2.2.2.2.2; show 8 + (1 + 11) + rm2.locals ≤ 404; omega⟩ hP hD (lit := vv) (wt := u ++ [outc G ol f]) (wc := vv) (isC := List.range vv.length) (gRange _) (gRange_nd _) rfl hrf rfl hl.1 (Nat.le_of_ble_eq_true rfl) dL_law_860 ⟨by have h9 := hb1.2.2.1; show cells + mc + 0 ≤ 601024; omega, by have h9 := hb1.2.2.2.1; show slots + ms + 0 ≤ 7293034; omega⟩) hP hD hS (lit := vv) (wt := u ++ [outc G ol f]) (wc := vv) (isC := List.range vv.length) (wr := []) (isR := []) (gRange _) rfl rfl (fun _ h_ => by cases h_) (fun r2 u2 H locs hp2 hP hD hS => ?_)
  obtain ⟨hR2, hv2⟩ := hp2 S2 r hz
  have hP : va_P G.1 vwCl (u2 ++ (u ++ [outc G ol f])) H := hP
  have hD : va_D A (u2 ++ (u ++ [outc G ol f])) := hD
  refine lv_icmp_eq (tgt := 2516) hx hb dL_law_863 (by decide) (fun _ => ?_) (fun c9 => absurd hv2.symm c9)
  refine W.widen (k := cells + 4) (n := slots + 528) (by have h9 := hb1.2.2.1; omega) (by have h9 := hb1.2.2.2.1; omega) ?_
  exact kk H locs ls ⟨u, u2, f, S2, 0, hC2, hR2, hZs S2 r hz, gPperm List.perm_append_comm hP, gDperm List.perm_append_comm hD, hS, hl⟩

set_option maxHeartbeats 4000000 in
set_option maxRecDepth 100000 in
theorem cs_savedStates {p : Program} {l : Launch} {e : Env} {s : State} {m : MethodId} {args : Array Value} {below : List Frame} {meth : Method} {c : Code} {H : Heap} {locs : List Loc} {cells slots : Nat} {Q : State → Prop} {G : gG} {A : Nat → Prop} {b L i lq mq ol : Nat} {xs : Nat → Int32} {ls : Array Slot} (F : lwF p l s m args meth c G A b L xs) (hi : i + 5 ≤ L) (hc : cells + 4 ≤ 601024) (hs : slots + 528 ≤ 7293034) (hI : lwI s G A lq mq ol b i H locs ls)
    (kk : ∀ (H : Heap) (locs : List Loc) (ls : Array Slot), lwI s G A lq mq ol b i H locs ls → W p l e room_1 s m args below meth c H locs (cells + 4) (slots + 528) Q (F0 m 2516 ls [])) : W p l e room_1 s m args below meth c H locs cells slots Q (F0 m 956 ls []) := by
  obtain ⟨F1, hZ, hX, hbl, hbA, hL, hl9⟩ := F
  obtain ⟨wv, vv, f, S, th, hC, hR, hSp, hP, hD, hS, hl⟩ := hI
  have hx := F1.1
  have hb := F1.2.1
  have hKK := F1.2.2.2.2.2.2.2.2.1
  obtain ⟨Z, hZs, ⟨rm, mc, ms, hb1, hw⟩, rm2, hb2, hm⟩ := P_savedStates l G lq mq hC hR hSp
  refine lv_aload_n hx hb dL_law_956 rfl (lv_at hl 1 rfl) ?_
  obtain ⟨fs1, hcl⟩ := cl_recv hC
  obtain ⟨fs2, hrf⟩ := rf_recv hR
  have hP : va_P G.1 vwCl (wv ++ ([outc G ol f] ++ vv)) H := by rw [← List.append_assoc]; exact hP
  have hD : va_D A (wv ++ ([outc G ol f] ++ vv)) := by rw [← List.append_assoc]; exact hD
  refine gCi F1 (gRunV (own := RL) (C := RX3) (ci := 3) (bytes := cX3_savedStates) (n := 0) (As := []) (rest := []) F1 (hw H.size) gL_law_X3_savedStates rfl rfl hb1.1 hb1.2.1 (by decide +kernel) rfl ⟨by have h9 := hb1.2.2.2.2.1; show rm.frames + 1 ≤ 11; omega, by have h9 := hb1.2.2.2.2.2; show 8 + (1 + 11) + rm.locals ≤ 404; omega⟩ hP hD (lit := wv) (wt := [outc G ol f] ++ vv) (wc := wv) (isC := List.range wv.length) (gRange _) (gRange_nd _) rfl hcl rfl hl.1 (Nat.le_of_ble_eq_true rfl) dL_law_957 ⟨by have h9 := hb1.2.2.1; show cells + mc ≤ 601024; omega, by have h9 := hb1.2.2.2.1; show slots + ms ≤ 7293034; omega⟩) hP hD hS (lit := wv) (wt := [outc G ol f] ++ vv) (wc := wv) (isC := List.range wv.length) (wr := []) (isR := []) (gRange _) rfl rfl (fun _ h_ => by cases h_) (fun r u H locs hp hP hD hS => ?_)
  obtain ⟨S2, hz, hC2⟩ := hp
  have hP : va_P G.1 vwCl ((u ++ [outc G ol f]) ++ vv) H := by rw [List.append_assoc]; exact hP
  have hD : va_D A ((u ++ [outc G ol f]) ++ vv) := by rw [List.append_assoc]; exact hD
  have hP := gPperm List.perm_append_comm hP
  have hD := gDperm List.perm_append_comm hD
  refine lv_aload_n hx hb dL_law_960 rfl (lv_at hl 2 rfl) ?_
  refine gCi F1 (gRunV (own := RL) (C := RX4) (ci := 4) (bytes := cX4_savedStates) (n := 0) (As := []) (rest := [.int r]) F1 (hm H.size) gL_law_X4_savedStates rfl rfl hb2.1 hb2.2.1 (by decide +kernel) rfl ⟨by have h9 := hb2.2.2.2.2.1; show rm2.frames + 1 ≤ 11; omega, by have h9 := hb2.2.2.2.2.2; show 8 + (1 + 11) + rm2.locals ≤ 404; omega⟩ hP hD (lit := vv) (wt := u ++ [outc G ol f]) (wc := vv) (isC := List.range vv.length) (gRange _) (gRange_nd _) rfl hrf rfl hl.1 (Nat.le_of_ble_eq_true rfl) dL_law_961 ⟨by have h9 := hb1.2.2.1; show cells + mc + 0 ≤ 601024; omega, by have h9 := hb1.2.2.2.1; show slots + ms + 0 ≤ 7293034; omega⟩) hP hD hS (lit := vv) (wt := u ++ [outc G ol f]) (wc := vv) (isC := List.range vv.length) (wr := []) (isR := []) (gRange _) rfl rfl (fun _ h_ => by cases h_) (fun r2 u2 H locs hp2 hP hD hS => ?_)
  obtain ⟨hR2, hv2⟩ := hp2 S2 r hz
  have hP : va_P G.1 vwCl (u2 ++ (u ++ [outc G ol f])) H := hP
  have hD : va_D A (u2 ++ (u ++ [outc G ol f])) := hD
  refine lv_icmp_eq (tgt := 2516) hx hb dL_law_964 (by decide) (fun _ => ?_) (fun c9 => absurd hv2.symm c9)
  refine W.widen (k := cells + 4) (n := slots + 528) (by have h9 := hb1.2.2.1; omega) (by have h9 := hb1.2.2.2.1; omega) ?_
  exact kk H locs ls ⟨u, u2, f, S2, 0, hC2, hR2, hZs S2 r hz, gPperm List.perm_append_comm hP, gDperm List.perm_append_comm hD, hS, hl⟩

set_option maxHeartbeats 4000000 in
set_option maxRecDepth 100000 in
theorem cs_plots {p : Program} {l : Launch} {e : Env} {s : State} {m : MethodId} {args : Array Value} {below : List Frame} {meth : Method} {c : Code} {H : Heap} {locs : List Loc} {cells slots : Nat} {Q : State → Prop} {G : gG} {A : Nat → Prop} {b L i lq mq ol : Nat} {xs : Nat → Int32} {ls : Array Slot} (F : lwF p l s m args meth c G A b L xs) (hi : i + 5 ≤ L) (hc : cells + 4 ≤ 601024) (hs : slots + 528 ≤ 7293034) (hI : lwI s G A lq mq ol b i H locs ls)
    (kk : ∀ (H : Heap) (locs : List Loc) (ls : Array Slot), lwI s G A lq mq ol b i H locs ls → W p l e room_1 s m args below meth c H locs (cells + 4) (slots + 528) Q (F0 m 2516 ls [])) : W p l e room_1 s m args below meth c H locs cells slots Q (F0 m 1421 ls []) := by
  obtain ⟨F1, hZ, hX, hbl, hbA, hL, hl9⟩ := F
  obtain ⟨wv, vv, f, S, th, hC, hR, hSp, hP, hD, hS, hl⟩ := hI
  have hx := F1.1
  have hb := F1.2.1
  have hKK := F1.2.2.2.2.2.2.2.2.1
  obtain ⟨Z, hZs, ⟨rm, mc, ms, hb1, hw⟩, rm2, hb2, hm⟩ := P_plots l G lq mq hC hR hSp
  refine lv_aload_n hx hb dL_law_1421 rfl (lv_at hl 1 rfl) ?_
  obtain ⟨fs1, hcl⟩ := cl_recv hC
  obtain ⟨fs2, hrf⟩ := rf_recv hR
  have hP : va_P G.1 vwCl (wv ++ ([outc G ol f] ++ vv)) H := by rw [← List.append_assoc]; exact hP
  have hD : va_D A (wv ++ ([outc G ol f] ++ vv)) := by rw [← List.append_assoc]; exact hD
  refine gCi F1 (gRunV (own := RL) (C := RX3) (ci := 3) (bytes := cX3_plots) (n := 0) (As := []) (rest := []) F1 (hw H.size) gL_law_X3_plots rfl rfl hb1.1 hb1.2.1 (by decide +kernel) rfl ⟨by have h9 := hb1.2.2.2.2.1; show rm.frames + 1 ≤ 11; omega, by have h9 := hb1.2.2.2.2.2; show 8 + (1 + 11) + rm.locals ≤ 404; omega⟩ hP hD (lit := wv) (wt := [outc G ol f] ++ vv) (wc := wv) (isC := List.range wv.length) (gRange _) (gRange_nd _) rfl hcl rfl hl.1 (Nat.le_of_ble_eq_true rfl) dL_law_1422 ⟨by have h9 := hb1.2.2.1; show cells + mc ≤ 601024; omega, by have h9 := hb1.2.2.2.1; show slots + ms ≤ 7293034; omega⟩) hP hD hS (lit := wv) (wt := [outc G ol f] ++ vv) (wc := wv) (isC := List.range wv.length) (wr := []) (isR := []) (gRange _) rfl rfl (fun _ h_ => by cases h_) (fun r u H locs hp hP hD hS => ?_)
  obtain ⟨S2, hz, hC2⟩ := hp
  have hP : va_P G.1 vwCl ((u ++ [outc G ol f]) ++ vv) H := by rw [List.append_assoc]; exact hP
  have hD : va_D A ((u ++ [outc G ol f]) ++ vv) := by rw [List.append_assoc]; exact hD
  have hP := gPperm List.perm_append_comm hP
  have hD := gDperm List.perm_append_comm hD
  refine lv_aload_n hx hb dL_law_1425 rfl (lv_at hl 2 rfl) ?_
  refine gCi F1 (gRunV (own := RL) (C := RX4) (ci := 4) (bytes := cX4_plots) (n := 0) (As := []) (rest := [.int r]) F1 (hm H.size) gL_law_X4_plots rfl rfl hb2.1 hb2.2.1 (by decide +kernel) rfl ⟨by have h9 := hb2.2.2.2.2.1; show rm2.frames + 1 ≤ 11; omega, by have h9 := hb2.2.2.2.2.2; show 8 + (1 + 11) + rm2.locals ≤ 404; omega⟩ hP hD (lit := vv) (wt := u ++ [outc G ol f]) (wc := vv) (isC := List.range vv.length) (gRange _) (gRange_nd _) rfl hrf rfl hl.1 (Nat.le_of_ble_eq_true rfl) dL_law_1426 ⟨by have h9 := hb1.2.2.1; show cells + mc + 0 ≤ 601024; omega, by have h9 := hb1.2.2.2.1; show slots + ms + 0 ≤ 7293034; omega⟩) hP hD hS (lit := vv) (wt := u ++ [outc G ol f]) (wc := vv) (isC := List.range vv.length) (wr := []) (isR := []) (gRange _) rfl rfl (fun _ h_ => by cases h_) (fun r2 u2 H locs hp2 hP hD hS => ?_)
  obtain ⟨hR2, hv2⟩ := hp2 S2 r hz
  have hP : va_P G.1 vwCl (u2 ++ (u ++ [outc G ol f])) H := hP
  have hD : va_D A (u2 ++ (u ++ [outc G ol f])) := hD
  refine lv_icmp_eq (tgt := 2516) hx hb dL_law_1429 (by decide) (fun _ => ?_) (fun c9 => absurd hv2.symm c9)
  refine W.widen (k := cells + 4) (n := slots + 528) (by have h9 := hb1.2.2.1; omega) (by have h9 := hb1.2.2.2.1; omega) ?_
  exact kk H locs ls ⟨u, u2, f, S2, 0, hC2, hR2, hZs S2 r hz, gPperm List.perm_append_comm hP, gDperm List.perm_append_comm hD, hS, hl⟩

set_option maxHeartbeats 4000000 in
set_option maxRecDepth 100000 in
theorem cs_price {p : Program} {l : Launch} {e : Env} {s : State} {m : MethodId} {args : Array Value} {below : List Frame} {meth : Method} {c : Code} {H : Heap} {locs : List Loc} {cells slots : Nat} {Q : State → Prop} {G : gG} {A : Nat → Prop} {b L i lq mq ol : Nat} {xs : Nat → Int32} {ls : Array Slot} (F : lwF p l s m args meth c G A b L xs) (hi : i + 5 ≤ L) (hc : cells + 4 ≤ 601024) (hs : slots + 528 ≤ 7293034) (hI : lwI s G A lq mq ol b i H locs ls)
    (kk : ∀ (H : Heap) (locs : List Loc) (ls : Array Slot), lwI s G A lq mq ol b i H locs ls → W p l e room_1 s m args below meth c H locs (cells + 4) (slots + 528) Q (F0 m 2516 ls [])) : W p l e room_1 s m args below meth c H locs cells slots Q (F0 m 2174 ls []) := by
  obtain ⟨F1, hZ, hX, hbl, hbA, hL, hl9⟩ := F
  obtain ⟨wv, vv, f, S, th, hC, hR, hSp, hP, hD, hS, hl⟩ := hI
  have hx := F1.1
  have hb := F1.2.1
  have hKK := F1.2.2.2.2.2.2.2.2.1
  obtain ⟨Z, hZs, ⟨rm, mc, ms, hb1, hw⟩, rm2, hb2, hm⟩ := P_price l G lq mq hC hR hSp
  refine lv_aload_n hx hb dL_law_2174 rfl (lv_at hl 1 rfl) ?_
  obtain ⟨fs1, hcl⟩ := cl_recv hC
  obtain ⟨fs2, hrf⟩ := rf_recv hR
  have hP : va_P G.1 vwCl (wv ++ ([outc G ol f] ++ vv)) H := by rw [← List.append_assoc]; exact hP
  have hD : va_D A (wv ++ ([outc G ol f] ++ vv)) := by rw [← List.append_assoc]; exact hD
  refine gCi F1 (gRunV (own := RL) (C := RX3) (ci := 3) (bytes := cX3_price) (n := 0) (As := []) (rest := []) F1 (hw H.size) gL_law_X3_price rfl rfl hb1.1 hb1.2.1 (by decide +kernel) rfl ⟨by have h9 := hb1.2.2.2.2.1; show rm.frames + 1 ≤ 11; omega, by have h9 := hb1.2.2.2.2.2; show 8 + (1 + 11) + rm.locals ≤ 404; omega⟩ hP hD (lit := wv) (wt := [outc G ol f] ++ vv) (wc := wv) (isC := List.range wv.length) (gRange _) (gRange_nd _) rfl hcl rfl hl.1 (Nat.le_of_ble_eq_true rfl) dL_law_2175 ⟨by have h9 := hb1.2.2.1; show cells + mc ≤ 601024; omega, by have h9 := hb1.2.2.2.1; show slots + ms ≤ 7293034; omega⟩) hP hD hS (lit := wv) (wt := [outc G ol f] ++ vv) (wc := wv) (isC := List.range wv.length) (wr := []) (isR := []) (gRange _) rfl rfl (fun _ h_ => by cases h_) (fun r u H locs hp hP hD hS => ?_)
  obtain ⟨S2, hz, hC2⟩ := hp
  have hP : va_P G.1 vwCl ((u ++ [outc G ol f]) ++ vv) H := by rw [List.append_assoc]; exact hP
  have hD : va_D A ((u ++ [outc G ol f]) ++ vv) := by rw [List.append_assoc]; exact hD
  have hP := gPperm List.perm_append_comm hP
  have hD := gDperm List.perm_append_comm hD
  refine lv_aload_n hx hb dL_law_2178 rfl (lv_at hl 2 rfl) ?_
  refine gCi F1 (gRunV (own := RL) (C := RX4) (ci := 4) (bytes := cX4_price) (n := 0) (As := []) (rest := [.int r]) F1 (hm H.size) gL_law_X4_price rfl rfl hb2.1 hb2.2.1 (by decide +kernel) rfl ⟨by have h9 := hb2.2.2.2.2.1; show rm2.frames + 1 ≤ 11; omega, by have h9 := hb2.2.2.2.2.2; show 8 + (1 + 11) + rm2.locals ≤ 404; omega⟩ hP hD (lit := vv) (wt := u ++ [outc G ol f]) (wc := vv) (isC := List.range vv.length) (gRange _) (gRange_nd _) rfl hrf rfl hl.1 (Nat.le_of_ble_eq_true rfl) dL_law_2179 ⟨by have h9 := hb1.2.2.1; show cells + mc + 0 ≤ 601024; omega, by have h9 := hb1.2.2.2.1; show slots + ms + 0 ≤ 7293034; omega⟩) hP hD hS (lit := vv) (wt := u ++ [outc G ol f]) (wc := vv) (isC := List.range vv.length) (wr := []) (isR := []) (gRange _) rfl rfl (fun _ h_ => by cases h_) (fun r2 u2 H locs hp2 hP hD hS => ?_)
  obtain ⟨hR2, hv2⟩ := hp2 S2 r hz
  have hP : va_P G.1 vwCl (u2 ++ (u ++ [outc G ol f])) H := hP
  have hD : va_D A (u2 ++ (u ++ [outc G ol f])) := hD
  refine lv_icmp_eq (tgt := 2516) hx hb dL_law_2182 (by decide) (fun _ => ?_) (fun c9 => absurd hv2.symm c9)
  refine W.widen (k := cells + 4) (n := slots + 528) (by have h9 := hb1.2.2.1; omega) (by have h9 := hb1.2.2.2.1; omega) ?_
  exact kk H locs ls ⟨u, u2, f, S2, 0, hC2, hR2, hZs S2 r hz, gPperm List.perm_append_comm hP, gDperm List.perm_append_comm hD, hS, hl⟩

set_option maxHeartbeats 4000000 in
set_option maxRecDepth 100000 in
theorem cs_tax {p : Program} {l : Launch} {e : Env} {s : State} {m : MethodId} {args : Array Value} {below : List Frame} {meth : Method} {c : Code} {H : Heap} {locs : List Loc} {cells slots : Nat} {Q : State → Prop} {G : gG} {A : Nat → Prop} {b L i lq mq ol : Nat} {xs : Nat → Int32} {ls : Array Slot} (F : lwF p l s m args meth c G A b L xs) (hi : i + 5 ≤ L) (hc : cells + 4 ≤ 601024) (hs : slots + 528 ≤ 7293034) (hI : lwI s G A lq mq ol b i H locs ls)
    (kk : ∀ (H : Heap) (locs : List Loc) (ls : Array Slot), lwI s G A lq mq ol b i H locs ls → W p l e room_1 s m args below meth c H locs (cells + 4) (slots + 528) Q (F0 m 2516 ls [])) : W p l e room_1 s m args below meth c H locs cells slots Q (F0 m 2187 ls []) := by
  obtain ⟨F1, hZ, hX, hbl, hbA, hL, hl9⟩ := F
  obtain ⟨wv, vv, f, S, th, hC, hR, hSp, hP, hD, hS, hl⟩ := hI
  have hx := F1.1
  have hb := F1.2.1
  have hKK := F1.2.2.2.2.2.2.2.2.1
  obtain ⟨Z, hZs, ⟨rm, mc, ms, hb1, hw⟩, rm2, hb2, hm⟩ := P_tax l G lq mq hC hR hSp
  refine lv_aload_n hx hb dL_law_2187 rfl (lv_at hl 1 rfl) ?_
  obtain ⟨fs1, hcl⟩ := cl_recv hC
  obtain ⟨fs2, hrf⟩ := rf_recv hR
  have hP : va_P G.1 vwCl (wv ++ ([outc G ol f] ++ vv)) H := by rw [← List.append_assoc]; exact hP
  have hD : va_D A (wv ++ ([outc G ol f] ++ vv)) := by rw [← List.append_assoc]; exact hD
  refine gCi F1 (gRunV (own := RL) (C := RX3) (ci := 3) (bytes := cX3_tax) (n := 0) (As := []) (rest := []) F1 (hw H.size) gL_law_X3_tax rfl rfl hb1.1 hb1.2.1 (by decide +kernel) rfl ⟨by have h9 := hb1.2.2.2.2.1; show rm.frames + 1 ≤ 11; omega, by have h9 := hb1.2.2.2.2.2; show 8 + (1 + 11) + rm.locals ≤ 404; omega⟩ hP hD (lit := wv) (wt := [outc G ol f] ++ vv) (wc := wv) (isC := List.range wv.length) (gRange _) (gRange_nd _) rfl hcl rfl hl.1 (Nat.le_of_ble_eq_true rfl) dL_law_2188 ⟨by have h9 := hb1.2.2.1; show cells + mc ≤ 601024; omega, by have h9 := hb1.2.2.2.1; show slots + ms ≤ 7293034; omega⟩) hP hD hS (lit := wv) (wt := [outc G ol f] ++ vv) (wc := wv) (isC := List.range wv.length) (wr := []) (isR := []) (gRange _) rfl rfl (fun _ h_ => by cases h_) (fun r u H locs hp hP hD hS => ?_)
  obtain ⟨S2, hz, hC2⟩ := hp
  have hP : va_P G.1 vwCl ((u ++ [outc G ol f]) ++ vv) H := by rw [List.append_assoc]; exact hP
  have hD : va_D A ((u ++ [outc G ol f]) ++ vv) := by rw [List.append_assoc]; exact hD
  have hP := gPperm List.perm_append_comm hP
  have hD := gDperm List.perm_append_comm hD
  refine lv_aload_n hx hb dL_law_2191 rfl (lv_at hl 2 rfl) ?_
  refine gCi F1 (gRunV (own := RL) (C := RX4) (ci := 4) (bytes := cX4_tax) (n := 0) (As := []) (rest := [.int r]) F1 (hm H.size) gL_law_X4_tax rfl rfl hb2.1 hb2.2.1 (by decide +kernel) rfl ⟨by have h9 := hb2.2.2.2.2.1; show rm2.frames + 1 ≤ 11; omega, by have h9 := hb2.2.2.2.2.2; show 8 + (1 + 11) + rm2.locals ≤ 404; omega⟩ hP hD (lit := vv) (wt := u ++ [outc G ol f]) (wc := vv) (isC := List.range vv.length) (gRange _) (gRange_nd _) rfl hrf rfl hl.1 (Nat.le_of_ble_eq_true rfl) dL_law_2192 ⟨by have h9 := hb1.2.2.1; show cells + mc + 0 ≤ 601024; omega, by have h9 := hb1.2.2.2.1; show slots + ms + 0 ≤ 7293034; omega⟩) hP hD hS (lit := vv) (wt := u ++ [outc G ol f]) (wc := vv) (isC := List.range vv.length) (wr := []) (isR := []) (gRange _) rfl rfl (fun _ h_ => by cases h_) (fun r2 u2 H locs hp2 hP hD hS => ?_)
  obtain ⟨hR2, hv2⟩ := hp2 S2 r hz
  have hP : va_P G.1 vwCl (u2 ++ (u ++ [outc G ol f])) H := hP
  have hD : va_D A (u2 ++ (u ++ [outc G ol f])) := hD
  refine lv_icmp_eq (tgt := 2516) hx hb dL_law_2195 (by decide) (fun _ => ?_) (fun c9 => absurd hv2.symm c9)
  refine W.widen (k := cells + 4) (n := slots + 528) (by have h9 := hb1.2.2.1; omega) (by have h9 := hb1.2.2.2.1; omega) ?_
  exact kk H locs ls ⟨u, u2, f, S2, 0, hC2, hR2, hZs S2 r hz, gPperm List.perm_append_comm hP, gDperm List.perm_append_comm hD, hS, hl⟩

set_option maxHeartbeats 4000000 in
set_option maxRecDepth 100000 in
theorem cs_sales {p : Program} {l : Launch} {e : Env} {s : State} {m : MethodId} {args : Array Value} {below : List Frame} {meth : Method} {c : Code} {H : Heap} {locs : List Loc} {cells slots : Nat} {Q : State → Prop} {G : gG} {A : Nat → Prop} {b L i lq mq ol : Nat} {xs : Nat → Int32} {ls : Array Slot} (F : lwF p l s m args meth c G A b L xs) (hi : i + 5 ≤ L) (hc : cells + 4 ≤ 601024) (hs : slots + 528 ≤ 7293034) (hI : lwI s G A lq mq ol b i H locs ls)
    (kk : ∀ (H : Heap) (locs : List Loc) (ls : Array Slot), lwI s G A lq mq ol b i H locs ls → W p l e room_1 s m args below meth c H locs (cells + 4) (slots + 528) Q (F0 m 2516 ls [])) : W p l e room_1 s m args below meth c H locs cells slots Q (F0 m 2200 ls []) := by
  obtain ⟨F1, hZ, hX, hbl, hbA, hL, hl9⟩ := F
  obtain ⟨wv, vv, f, S, th, hC, hR, hSp, hP, hD, hS, hl⟩ := hI
  have hx := F1.1
  have hb := F1.2.1
  have hKK := F1.2.2.2.2.2.2.2.2.1
  obtain ⟨Z, hZs, ⟨rm, mc, ms, hb1, hw⟩, rm2, hb2, hm⟩ := P_sales l G lq mq hC hR hSp
  refine lv_aload_n hx hb dL_law_2200 rfl (lv_at hl 1 rfl) ?_
  obtain ⟨fs1, hcl⟩ := cl_recv hC
  obtain ⟨fs2, hrf⟩ := rf_recv hR
  have hP : va_P G.1 vwCl (wv ++ ([outc G ol f] ++ vv)) H := by rw [← List.append_assoc]; exact hP
  have hD : va_D A (wv ++ ([outc G ol f] ++ vv)) := by rw [← List.append_assoc]; exact hD
  refine gCi F1 (gRunV (own := RL) (C := RX3) (ci := 3) (bytes := cX3_sales) (n := 0) (As := []) (rest := []) F1 (hw H.size) gL_law_X3_sales rfl rfl hb1.1 hb1.2.1 (by decide +kernel) rfl ⟨by have h9 := hb1.2.2.2.2.1; show rm.frames + 1 ≤ 11; omega, by have h9 := hb1.2.2.2.2.2; show 8 + (1 + 11) + rm.locals ≤ 404; omega⟩ hP hD (lit := wv) (wt := [outc G ol f] ++ vv) (wc := wv) (isC := List.range wv.length) (gRange _) (gRange_nd _) rfl hcl rfl hl.1 (Nat.le_of_ble_eq_true rfl) dL_law_2201 ⟨by have h9 := hb1.2.2.1; show cells + mc ≤ 601024; omega, by have h9 := hb1.2.2.2.1; show slots + ms ≤ 7293034; omega⟩) hP hD hS (lit := wv) (wt := [outc G ol f] ++ vv) (wc := wv) (isC := List.range wv.length) (wr := []) (isR := []) (gRange _) rfl rfl (fun _ h_ => by cases h_) (fun r u H locs hp hP hD hS => ?_)
  obtain ⟨S2, hz, hC2⟩ := hp
  have hP : va_P G.1 vwCl ((u ++ [outc G ol f]) ++ vv) H := by rw [List.append_assoc]; exact hP
  have hD : va_D A ((u ++ [outc G ol f]) ++ vv) := by rw [List.append_assoc]; exact hD
  have hP := gPperm List.perm_append_comm hP
  have hD := gDperm List.perm_append_comm hD
  refine lv_aload_n hx hb dL_law_2204 rfl (lv_at hl 2 rfl) ?_
  refine gCi F1 (gRunV (own := RL) (C := RX4) (ci := 4) (bytes := cX4_sales) (n := 0) (As := []) (rest := [.int r]) F1 (hm H.size) gL_law_X4_sales rfl rfl hb2.1 hb2.2.1 (by decide +kernel) rfl ⟨by have h9 := hb2.2.2.2.2.1; show rm2.frames + 1 ≤ 11; omega, by have h9 := hb2.2.2.2.2.2; show 8 + (1 + 11) + rm2.locals ≤ 404; omega⟩ hP hD (lit := vv) (wt := u ++ [outc G ol f]) (wc := vv) (isC := List.range vv.length) (gRange _) (gRange_nd _) rfl hrf rfl hl.1 (Nat.le_of_ble_eq_true rfl) dL_law_2205 ⟨by have h9 := hb1.2.2.1; show cells + mc + 0 ≤ 601024; omega, by have h9 := hb1.2.2.2.1; show slots + ms + 0 ≤ 7293034; omega⟩) hP hD hS (lit := vv) (wt := u ++ [outc G ol f]) (wc := vv) (isC := List.range vv.length) (wr := []) (isR := []) (gRange _) rfl rfl (fun _ h_ => by cases h_) (fun r2 u2 H locs hp2 hP hD hS => ?_)
  obtain ⟨hR2, hv2⟩ := hp2 S2 r hz
  have hP : va_P G.1 vwCl (u2 ++ (u ++ [outc G ol f])) H := hP
  have hD : va_D A (u2 ++ (u ++ [outc G ol f])) := hD
  refine lv_icmp_eq (tgt := 2516) hx hb dL_law_2208 (by decide) (fun _ => ?_) (fun c9 => absurd hv2.symm c9)
  refine W.widen (k := cells + 4) (n := slots + 528) (by have h9 := hb1.2.2.1; omega) (by have h9 := hb1.2.2.2.1; omega) ?_
  exact kk H locs ls ⟨u, u2, f, S2, 0, hC2, hR2, hZs S2 r hz, gPperm List.perm_append_comm hP, gDperm List.perm_append_comm hD, hS, hl⟩

set_option maxHeartbeats 4000000 in
set_option maxRecDepth 100000 in
theorem cs_floods {p : Program} {l : Launch} {e : Env} {s : State} {m : MethodId} {args : Array Value} {below : List Frame} {meth : Method} {c : Code} {H : Heap} {locs : List Loc} {cells slots : Nat} {Q : State → Prop} {G : gG} {A : Nat → Prop} {b L i lq mq ol : Nat} {xs : Nat → Int32} {ls : Array Slot} (F : lwF p l s m args meth c G A b L xs) (hi : i + 5 ≤ L) (hc : cells + 4 ≤ 601024) (hs : slots + 528 ≤ 7293034) (hI : lwI s G A lq mq ol b i H locs ls)
    (kk : ∀ (H : Heap) (locs : List Loc) (ls : Array Slot), lwI s G A lq mq ol b i H locs ls → W p l e room_1 s m args below meth c H locs (cells + 4) (slots + 528) Q (F0 m 2516 ls [])) : W p l e room_1 s m args below meth c H locs cells slots Q (F0 m 2213 ls []) := by
  obtain ⟨F1, hZ, hX, hbl, hbA, hL, hl9⟩ := F
  obtain ⟨wv, vv, f, S, th, hC, hR, hSp, hP, hD, hS, hl⟩ := hI
  have hx := F1.1
  have hb := F1.2.1
  have hKK := F1.2.2.2.2.2.2.2.2.1
  obtain ⟨Z, hZs, ⟨rm, mc, ms, hb1, hw⟩, rm2, hb2, hm⟩ := P_floods l G lq mq hC hR hSp
  refine lv_aload_n hx hb dL_law_2213 rfl (lv_at hl 1 rfl) ?_
  obtain ⟨fs1, hcl⟩ := cl_recv hC
  obtain ⟨fs2, hrf⟩ := rf_recv hR
  have hP : va_P G.1 vwCl (wv ++ ([outc G ol f] ++ vv)) H := by rw [← List.append_assoc]; exact hP
  have hD : va_D A (wv ++ ([outc G ol f] ++ vv)) := by rw [← List.append_assoc]; exact hD
  refine gCi F1 (gRunV (own := RL) (C := RX3) (ci := 3) (bytes := cX3_floods) (n := 0) (As := []) (rest := []) F1 (hw H.size) gL_law_X3_floods rfl rfl hb1.1 hb1.2.1 (by decide +kernel) rfl ⟨by have h9 := hb1.2.2.2.2.1; show rm.frames + 1 ≤ 11; omega, by have h9 := hb1.2.2.2.2.2; show 8 + (1 + 11) + rm.locals ≤ 404; omega⟩ hP hD (lit := wv) (wt := [outc G ol f] ++ vv) (wc := wv) (isC := List.range wv.length) (gRange _) (gRange_nd _) rfl hcl rfl hl.1 (Nat.le_of_ble_eq_true rfl) dL_law_2214 ⟨by have h9 := hb1.2.2.1; show cells + mc ≤ 601024; omega, by have h9 := hb1.2.2.2.1; show slots + ms ≤ 7293034; omega⟩) hP hD hS (lit := wv) (wt := [outc G ol f] ++ vv) (wc := wv) (isC := List.range wv.length) (wr := []) (isR := []) (gRange _) rfl rfl (fun _ h_ => by cases h_) (fun r u H locs hp hP hD hS => ?_)
  obtain ⟨S2, hz, hC2⟩ := hp
  have hP : va_P G.1 vwCl ((u ++ [outc G ol f]) ++ vv) H := by rw [List.append_assoc]; exact hP
  have hD : va_D A ((u ++ [outc G ol f]) ++ vv) := by rw [List.append_assoc]; exact hD
  have hP := gPperm List.perm_append_comm hP
  have hD := gDperm List.perm_append_comm hD
  refine lv_aload_n hx hb dL_law_2217 rfl (lv_at hl 2 rfl) ?_
  refine gCi F1 (gRunV (own := RL) (C := RX4) (ci := 4) (bytes := cX4_floods) (n := 0) (As := []) (rest := [.int r]) F1 (hm H.size) gL_law_X4_floods rfl rfl hb2.1 hb2.2.1 (by decide +kernel) rfl ⟨by have h9 := hb2.2.2.2.2.1; show rm2.frames + 1 ≤ 11; omega, by have h9 := hb2.2.2.2.2.2; show 8 + (1 + 11) + rm2.locals ≤ 404; omega⟩ hP hD (lit := vv) (wt := u ++ [outc G ol f]) (wc := vv) (isC := List.range vv.length) (gRange _) (gRange_nd _) rfl hrf rfl hl.1 (Nat.le_of_ble_eq_true rfl) dL_law_2218 ⟨by have h9 := hb1.2.2.1; show cells + mc + 0 ≤ 601024; omega, by have h9 := hb1.2.2.2.1; show slots + ms + 0 ≤ 7293034; omega⟩) hP hD hS (lit := vv) (wt := u ++ [outc G ol f]) (wc := vv) (isC := List.range vv.length) (wr := []) (isR := []) (gRange _) rfl rfl (fun _ h_ => by cases h_) (fun r2 u2 H locs hp2 hP hD hS => ?_)
  obtain ⟨hR2, hv2⟩ := hp2 S2 r hz
  have hP : va_P G.1 vwCl (u2 ++ (u ++ [outc G ol f])) H := hP
  have hD : va_D A (u2 ++ (u ++ [outc G ol f])) := hD
  refine lv_icmp_eq (tgt := 2516) hx hb dL_law_2221 (by decide) (fun _ => ?_) (fun c9 => absurd hv2.symm c9)
  refine W.widen (k := cells + 4) (n := slots + 528) (by have h9 := hb1.2.2.1; omega) (by have h9 := hb1.2.2.2.1; omega) ?_
  exact kk H locs ls ⟨u, u2, f, S2, 0, hC2, hR2, hZs S2 r hz, gPperm List.perm_append_comm hP, gDperm List.perm_append_comm hD, hS, hl⟩

set_option maxHeartbeats 4000000 in
set_option maxRecDepth 100000 in
theorem cs_plotsLost {p : Program} {l : Launch} {e : Env} {s : State} {m : MethodId} {args : Array Value} {below : List Frame} {meth : Method} {c : Code} {H : Heap} {locs : List Loc} {cells slots : Nat} {Q : State → Prop} {G : gG} {A : Nat → Prop} {b L i lq mq ol : Nat} {xs : Nat → Int32} {ls : Array Slot} (F : lwF p l s m args meth c G A b L xs) (hi : i + 5 ≤ L) (hc : cells + 4 ≤ 601024) (hs : slots + 528 ≤ 7293034) (hI : lwI s G A lq mq ol b i H locs ls)
    (kk : ∀ (H : Heap) (locs : List Loc) (ls : Array Slot), lwI s G A lq mq ol b i H locs ls → W p l e room_1 s m args below meth c H locs (cells + 4) (slots + 528) Q (F0 m 2516 ls [])) : W p l e room_1 s m args below meth c H locs cells slots Q (F0 m 2226 ls []) := by
  obtain ⟨F1, hZ, hX, hbl, hbA, hL, hl9⟩ := F
  obtain ⟨wv, vv, f, S, th, hC, hR, hSp, hP, hD, hS, hl⟩ := hI
  have hx := F1.1
  have hb := F1.2.1
  have hKK := F1.2.2.2.2.2.2.2.2.1
  obtain ⟨Z, hZs, ⟨rm, mc, ms, hb1, hw⟩, rm2, hb2, hm⟩ := P_plotsLost l G lq mq hC hR hSp
  refine lv_aload_n hx hb dL_law_2226 rfl (lv_at hl 1 rfl) ?_
  obtain ⟨fs1, hcl⟩ := cl_recv hC
  obtain ⟨fs2, hrf⟩ := rf_recv hR
  have hP : va_P G.1 vwCl (wv ++ ([outc G ol f] ++ vv)) H := by rw [← List.append_assoc]; exact hP
  have hD : va_D A (wv ++ ([outc G ol f] ++ vv)) := by rw [← List.append_assoc]; exact hD
  refine gCi F1 (gRunV (own := RL) (C := RX3) (ci := 3) (bytes := cX3_plotsLost) (n := 0) (As := []) (rest := []) F1 (hw H.size) gL_law_X3_plotsLost rfl rfl hb1.1 hb1.2.1 (by decide +kernel) rfl ⟨by have h9 := hb1.2.2.2.2.1; show rm.frames + 1 ≤ 11; omega, by have h9 := hb1.2.2.2.2.2; show 8 + (1 + 11) + rm.locals ≤ 404; omega⟩ hP hD (lit := wv) (wt := [outc G ol f] ++ vv) (wc := wv) (isC := List.range wv.length) (gRange _) (gRange_nd _) rfl hcl rfl hl.1 (Nat.le_of_ble_eq_true rfl) dL_law_2227 ⟨by have h9 := hb1.2.2.1; show cells + mc ≤ 601024; omega, by have h9 := hb1.2.2.2.1; show slots + ms ≤ 7293034; omega⟩) hP hD hS (lit := wv) (wt := [outc G ol f] ++ vv) (wc := wv) (isC := List.range wv.length) (wr := []) (isR := []) (gRange _) rfl rfl (fun _ h_ => by cases h_) (fun r u H locs hp hP hD hS => ?_)
  obtain ⟨S2, hz, hC2⟩ := hp
  have hP : va_P G.1 vwCl ((u ++ [outc G ol f]) ++ vv) H := by rw [List.append_assoc]; exact hP
  have hD : va_D A ((u ++ [outc G ol f]) ++ vv) := by rw [List.append_assoc]; exact hD
  have hP := gPperm List.perm_append_comm hP
  have hD := gDperm List.perm_append_comm hD
  refine lv_aload_n hx hb dL_law_2230 rfl (lv_at hl 2 rfl) ?_
  refine gCi F1 (gRunV (own := RL) (C := RX4) (ci := 4) (bytes := cX4_plotsLost) (n := 0) (As := []) (rest := [.int r]) F1 (hm H.size) gL_law_X4_plotsLost rfl rfl hb2.1 hb2.2.1 (by decide +kernel) rfl ⟨by have h9 := hb2.2.2.2.2.1; show rm2.frames + 1 ≤ 11; omega, by have h9 := hb2.2.2.2.2.2; show 8 + (1 + 11) + rm2.locals ≤ 404; omega⟩ hP hD (lit := vv) (wt := u ++ [outc G ol f]) (wc := vv) (isC := List.range vv.length) (gRange _) (gRange_nd _) rfl hrf rfl hl.1 (Nat.le_of_ble_eq_true rfl) dL_law_2231 ⟨by have h9 := hb1.2.2.1; show cells + mc + 0 ≤ 601024; omega, by have h9 := hb1.2.2.2.1; show slots + ms + 0 ≤ 7293034; omega⟩) hP hD hS (lit := vv) (wt := u ++ [outc G ol f]) (wc := vv) (isC := List.range vv.length) (wr := []) (isR := []) (gRange _) rfl rfl (fun _ h_ => by cases h_) (fun r2 u2 H locs hp2 hP hD hS => ?_)
  obtain ⟨hR2, hv2⟩ := hp2 S2 r hz
  have hP : va_P G.1 vwCl (u2 ++ (u ++ [outc G ol f])) H := hP
  have hD : va_D A (u2 ++ (u ++ [outc G ol f])) := hD
  refine lv_icmp_eq (tgt := 2516) hx hb dL_law_2234 (by decide) (fun _ => ?_) (fun c9 => absurd hv2.symm c9)
  refine W.widen (k := cells + 4) (n := slots + 528) (by have h9 := hb1.2.2.1; omega) (by have h9 := hb1.2.2.2.1; omega) ?_
  exact kk H locs ls ⟨u, u2, f, S2, 0, hC2, hR2, hZs S2 r hz, gPperm List.perm_append_comm hP, gDperm List.perm_append_comm hD, hS, hl⟩

/-! OWN: the law's call -/
set_option maxHeartbeats 4000000 in
set_option maxRecDepth 100000 in
theorem call_0 (l : Launch) (G : gG) (lq : Nat) (S S' : SpT) (a b cv dv : Int32) (r : Int) (h : DoV l G lq yX3_grant wsX3_grant [.int a, .int b, .int cv, .int dv] S r S') : LW l G lq yL_call wsL_call { frames := 9, cells := 4, slots := 528, locals := 230 } [.int (nI 0), .int a, .int b, .int cv, .int dv] S (zI r) S' 4 528 := by
  intro wv hC
  refine gMw_mk (cc := cL_call) (nL := 7) (ret := some .int) (hh := [(0, 227, 228, 66), (0, 227, 234, 68), (0, 227, 240, 70)]) (Qc := fun A => va_Qi (S := va_W) (fun r' u => r' = zI r ∧ clS G lq u S') (gB G A (fun u => u)) A) (by decide) rfl (Nat.le_of_ble_eq_true rfl) ?_
  intro p e s m args below meth c A F htb hZ ls hl hP hD hS
  have hx := F.1
  have hb := F.2.1
  have hts := F.2.2.2.2.2.2.1
  have hKK := F.2.2.2.2.2.2.2.2.1
  have hl : lv_has ls 7 [(0, .ref lq), (1, .int (nI 0)), (2, .int a), (3, .int b), (4, .int cv), (5, .int dv)] := hl
  have hP : va_P G.1 vwCl (wv ++ []) s.heap := by rw [List.append_nil]; exact hP
  have hD : va_D A (wv ++ []) := by rw [List.append_nil]; exact hD
  generalize hH : s.heap = H at hP ⊢
  have hS0 : va_S A s.heap H [] := by rw [← hH]; exact va_S.rf
  clear hS
  have hS := hS0
  clear hS0
  generalize hLo : ([] : List Loc) = locs at hS ⊢
  refine lv_iload_n hx hb dL_call_0 rfl (lv_at hl 1 rfl) ?_
  refine bZF_ne (tgt := 17) hx hb dL_call_1 (by decide) (by decide) ?_
  refine lv_aload_n hx hb dL_call_4 rfl (lv_at hl 0 rfl) ?_
  refine lv_iload_n hx hb dL_call_5 rfl (lv_at hl 2 rfl) ?_
  refine lv_iload_n hx hb dL_call_6 rfl (lv_at hl 3 rfl) ?_
  refine lv_iload hx hb dL_call_7 (lv_at hl 4 rfl) ?_
  refine lv_iload hx hb dL_call_9 (lv_at hl 5 rfl) ?_
  rcases h with ⟨rm, mc, ms, hb1, hM⟩ | ⟨E, rm, mc, ms, hb1, rfl, hE, hM⟩
  · refine lqV (own := RL) (index := 9) (bytes := cX3_grant) (n := 4) (As := [.int a, .int b, .int cv, .int dv]) (rest := []) (c2 := 4) (s2 := 528) F hM hC gL_call_X3_grant rfl rfl hb1.1 hb1.2.1 (by decide +kernel) rfl ⟨by have h9 := hb1.2.2.2.2.1; show rm.frames + 1 ≤ 9; omega, by have h9 := hb1.2.2.2.2.2; show 8 + (6 + 11) + rm.locals ≤ 230; omega⟩ hP hD hS rfl hl.1 (Nat.le_of_ble_eq_true rfl) dL_call_11 ⟨by have h9 := hb1.2.2.1; omega, by have h9 := hb1.2.2.2.1; omega⟩ ⟨Nat.le_of_ble_eq_true rfl, Nat.le_of_ble_eq_true rfl⟩ (fun u H locs hC hP hD hS => ?_)
    refine lv_goto (tgt := 227) hx hb dL_call_14 (by decide) ?_
    exact gRi F dL_call_227 rfl u ⟨rfl, hC⟩ (gPl hP) (gDl hD) hS (Nat.le_of_ble_eq_true rfl) (Nat.le_of_ble_eq_true rfl)
  · obtain ⟨fs, h0⟩ := cl_recv hC
    refine gXrun F (gRunVx (own := RL) (C := RX3) (ci := 3) (bytes := cX3_grant) (n := 4) (As := [.int a, .int b, .int cv, .int dv]) (rest := []) F hZ hS (hM wv hC H.size) gL_call_X3_grant rfl rfl hb1.1 hb1.2.1 (by decide +kernel) rfl ⟨by have h9 := hb1.2.2.2.2.1; show rm.frames + 1 ≤ 9; omega, by have h9 := hb1.2.2.2.2.2; show 8 + (6 + 11) + rm.locals ≤ 230; omega⟩ hP hD (lit := wv) (wt := []) (wc := wv) (isC := List.range wv.length) (gRange wv) (gRange_nd _) rfl h0 rfl hl.1 (Nat.le_of_ble_eq_true rfl) dL_call_11 ⟨by have h9 := hb1.2.2.1; show 0 + mc ≤ 4; omega, by have h9 := hb1.2.2.2.1; show 0 + ms ≤ 528; omega⟩) hP hD hS (lit := wv) (wt := []) (wc := wv) (isC := List.range wv.length) (wr := []) (isR := []) (gRange wv) rfl rfl (fun _ h_ => by cases h_) (fun ce q9 u H locs hp hP hD hS hce hcv hcl => ?_)
    have hP : va_P G.1 vwCl (u ++ []) H := hP
    have hD : va_D A (u ++ []) := hD
    rcases hE with ⟨rfl, rfl⟩ | ⟨rfl, rfl⟩ | ⟨rfl, rfl⟩
    · refine vx_catch (own := RL) (name := gIO) (E := gIO) F.2.2.2.2.2.1 [] ⟨0, 227, 228, 66⟩ [⟨0, 227, 234, 68⟩, ⟨0, 227, 240, 70⟩] (by rw [htb]; rfl) (fun _ h_ => by cases h_) rfl (by decide) (F.2.2.2.2.2.2.1 (.classLink RL 66 gIO) (by decide +kernel)) (va_Nw.use rfl (hKK.2.2.2.2.2.1 (gIO, gIO) (by decide +kernel))) hce hcv hcl ?_
      refine lv_astore (lv' := [(6, .ref q9), (0, .ref lq), (1, .int (nI 0)), (2, .int a), (3, .int b), (4, .int cv), (5, .int dv)]) hx hb dL_call_228 hl (by decide) rfl (fun ls hl => ?_)
      refine lv_sipush (v := zI (-2011)) hx hb dL_call_230 (by decide) ?_
      exact gRi F dL_call_233 rfl u ⟨rfl, hp⟩ (gPl hP) (gDl hD) hS (by have h9 := hb1.2.2.1; omega) (by have h9 := hb1.2.2.2.1; omega)
    · refine vx_catch (own := RL) (name := gIA) (E := gIA) F.2.2.2.2.2.1 [⟨0, 227, 228, 66⟩] ⟨0, 227, 234, 68⟩ [⟨0, 227, 240, 70⟩] (by rw [htb]; rfl) (List.forall_mem_cons.mpr ⟨Or.inr ⟨by decide, gIO, F.2.2.2.2.2.2.1 (.classLink RL 66 gIO) (by decide +kernel), hKK.2.2.2.2.2.2.1 (gIA, gIO) (by decide +kernel)⟩, fun _ h_ => by cases h_⟩) rfl (by decide) (F.2.2.2.2.2.2.1 (.classLink RL 68 gIA) (by decide +kernel)) (va_Nw.use rfl (hKK.2.2.2.2.2.1 (gIA, gIA) (by decide +kernel))) hce hcv hcl ?_
      refine lv_astore (lv' := [(6, .ref q9), (0, .ref lq), (1, .int (nI 0)), (2, .int a), (3, .int b), (4, .int cv), (5, .int dv)]) hx hb dL_call_234 hl (by decide) rfl (fun ls hl => ?_)
      refine lv_sipush (v := zI (-2012)) hx hb dL_call_236 (by decide) ?_
      exact gRi F dL_call_239 rfl u ⟨rfl, hp⟩ (gPl hP) (gDl hD) hS (by have h9 := hb1.2.2.1; omega) (by have h9 := hb1.2.2.2.1; omega)
    · refine vx_catch (own := RL) (name := gIS) (E := gIS) F.2.2.2.2.2.1 [⟨0, 227, 228, 66⟩, ⟨0, 227, 234, 68⟩] ⟨0, 227, 240, 70⟩ [] (by rw [htb]; rfl) (List.forall_mem_cons.mpr ⟨Or.inr ⟨by decide, gIO, F.2.2.2.2.2.2.1 (.classLink RL 66 gIO) (by decide +kernel), hKK.2.2.2.2.2.2.1 (gIS, gIO) (by decide +kernel)⟩, List.forall_mem_cons.mpr ⟨Or.inr ⟨by decide, gIA, F.2.2.2.2.2.2.1 (.classLink RL 68 gIA) (by decide +kernel), hKK.2.2.2.2.2.2.1 (gIS, gIA) (by decide +kernel)⟩, fun _ h_ => by cases h_⟩⟩) rfl (by decide) (F.2.2.2.2.2.2.1 (.classLink RL 70 gIS) (by decide +kernel)) (va_Nw.use rfl (hKK.2.2.2.2.2.1 (gIS, gIS) (by decide +kernel))) hce hcv hcl ?_
      refine lv_astore (lv' := [(6, .ref q9), (0, .ref lq), (1, .int (nI 0)), (2, .int a), (3, .int b), (4, .int cv), (5, .int dv)]) hx hb dL_call_240 hl (by decide) rfl (fun ls hl => ?_)
      refine lv_sipush (v := zI (-2013)) hx hb dL_call_242 (by decide) ?_
      exact gRi F dL_call_245 rfl u ⟨rfl, hp⟩ (gPl hP) (gDl hD) hS (by have h9 := hb1.2.2.1; omega) (by have h9 := hb1.2.2.2.1; omega)

set_option maxHeartbeats 4000000 in
set_option maxRecDepth 100000 in
theorem call_1 (l : Launch) (G : gG) (lq : Nat) (S S' : SpT) (a b cv dv : Int32) (r : Int) (h : DoV l G lq yX3_raise wsX3_raise [.int a, .int b, .int cv, .int dv] S r S') : LW l G lq yL_call wsL_call { frames := 9, cells := 4, slots := 528, locals := 230 } [.int (nI 1), .int a, .int b, .int cv, .int dv] S (zI r) S' 4 528 := by
  intro wv hC
  refine gMw_mk (cc := cL_call) (nL := 7) (ret := some .int) (hh := [(0, 227, 228, 66), (0, 227, 234, 68), (0, 227, 240, 70)]) (Qc := fun A => va_Qi (S := va_W) (fun r' u => r' = zI r ∧ clS G lq u S') (gB G A (fun u => u)) A) (by decide) rfl (Nat.le_of_ble_eq_true rfl) ?_
  intro p e s m args below meth c A F htb hZ ls hl hP hD hS
  have hx := F.1
  have hb := F.2.1
  have hts := F.2.2.2.2.2.2.1
  have hKK := F.2.2.2.2.2.2.2.2.1
  have hl : lv_has ls 7 [(0, .ref lq), (1, .int (nI 1)), (2, .int a), (3, .int b), (4, .int cv), (5, .int dv)] := hl
  have hP : va_P G.1 vwCl (wv ++ []) s.heap := by rw [List.append_nil]; exact hP
  have hD : va_D A (wv ++ []) := by rw [List.append_nil]; exact hD
  generalize hH : s.heap = H at hP ⊢
  have hS0 : va_S A s.heap H [] := by rw [← hH]; exact va_S.rf
  clear hS
  have hS := hS0
  clear hS0
  generalize hLo : ([] : List Loc) = locs at hS ⊢
  refine lv_iload_n hx hb dL_call_0 rfl (lv_at hl 1 rfl) ?_
  refine bZT_ne (tgt := 17) hx hb dL_call_1 (by decide) (by decide) ?_
  refine lv_iload_n hx hb dL_call_17 rfl (lv_at hl 1 rfl) ?_
  refine lv_iconst (v := nI 1) hx hb dL_call_18 (by decide) ?_
  refine bIF_ne (tgt := 35) hx hb dL_call_19 (by decide) (by decide) ?_
  refine lv_aload_n hx hb dL_call_22 rfl (lv_at hl 0 rfl) ?_
  refine lv_iload_n hx hb dL_call_23 rfl (lv_at hl 2 rfl) ?_
  refine lv_iload_n hx hb dL_call_24 rfl (lv_at hl 3 rfl) ?_
  refine lv_iload hx hb dL_call_25 (lv_at hl 4 rfl) ?_
  refine lv_iload hx hb dL_call_27 (lv_at hl 5 rfl) ?_
  rcases h with ⟨rm, mc, ms, hb1, hM⟩ | ⟨E, rm, mc, ms, hb1, rfl, hE, hM⟩
  · refine lqV (own := RL) (index := 15) (bytes := cX3_raise) (n := 4) (As := [.int a, .int b, .int cv, .int dv]) (rest := []) (c2 := 4) (s2 := 528) F hM hC gL_call_X3_raise rfl rfl hb1.1 hb1.2.1 (by decide +kernel) rfl ⟨by have h9 := hb1.2.2.2.2.1; show rm.frames + 1 ≤ 9; omega, by have h9 := hb1.2.2.2.2.2; show 8 + (5 + 11) + rm.locals ≤ 230; omega⟩ hP hD hS rfl hl.1 (Nat.le_of_ble_eq_true rfl) dL_call_29 ⟨by have h9 := hb1.2.2.1; omega, by have h9 := hb1.2.2.2.1; omega⟩ ⟨Nat.le_of_ble_eq_true rfl, Nat.le_of_ble_eq_true rfl⟩ (fun u H locs hC hP hD hS => ?_)
    refine lv_goto (tgt := 227) hx hb dL_call_32 (by decide) ?_
    exact gRi F dL_call_227 rfl u ⟨rfl, hC⟩ (gPl hP) (gDl hD) hS (Nat.le_of_ble_eq_true rfl) (Nat.le_of_ble_eq_true rfl)
  · obtain ⟨fs, h0⟩ := cl_recv hC
    refine gXrun F (gRunVx (own := RL) (C := RX3) (ci := 3) (bytes := cX3_raise) (n := 4) (As := [.int a, .int b, .int cv, .int dv]) (rest := []) F hZ hS (hM wv hC H.size) gL_call_X3_raise rfl rfl hb1.1 hb1.2.1 (by decide +kernel) rfl ⟨by have h9 := hb1.2.2.2.2.1; show rm.frames + 1 ≤ 9; omega, by have h9 := hb1.2.2.2.2.2; show 8 + (5 + 11) + rm.locals ≤ 230; omega⟩ hP hD (lit := wv) (wt := []) (wc := wv) (isC := List.range wv.length) (gRange wv) (gRange_nd _) rfl h0 rfl hl.1 (Nat.le_of_ble_eq_true rfl) dL_call_29 ⟨by have h9 := hb1.2.2.1; show 0 + mc ≤ 4; omega, by have h9 := hb1.2.2.2.1; show 0 + ms ≤ 528; omega⟩) hP hD hS (lit := wv) (wt := []) (wc := wv) (isC := List.range wv.length) (wr := []) (isR := []) (gRange wv) rfl rfl (fun _ h_ => by cases h_) (fun ce q9 u H locs hp hP hD hS hce hcv hcl => ?_)
    have hP : va_P G.1 vwCl (u ++ []) H := hP
    have hD : va_D A (u ++ []) := hD
    rcases hE with ⟨rfl, rfl⟩ | ⟨rfl, rfl⟩ | ⟨rfl, rfl⟩
    · refine vx_catch (own := RL) (name := gIO) (E := gIO) F.2.2.2.2.2.1 [] ⟨0, 227, 228, 66⟩ [⟨0, 227, 234, 68⟩, ⟨0, 227, 240, 70⟩] (by rw [htb]; rfl) (fun _ h_ => by cases h_) rfl (by decide) (F.2.2.2.2.2.2.1 (.classLink RL 66 gIO) (by decide +kernel)) (va_Nw.use rfl (hKK.2.2.2.2.2.1 (gIO, gIO) (by decide +kernel))) hce hcv hcl ?_
      refine lv_astore (lv' := [(6, .ref q9), (0, .ref lq), (1, .int (nI 1)), (2, .int a), (3, .int b), (4, .int cv), (5, .int dv)]) hx hb dL_call_228 hl (by decide) rfl (fun ls hl => ?_)
      refine lv_sipush (v := zI (-2011)) hx hb dL_call_230 (by decide) ?_
      exact gRi F dL_call_233 rfl u ⟨rfl, hp⟩ (gPl hP) (gDl hD) hS (by have h9 := hb1.2.2.1; omega) (by have h9 := hb1.2.2.2.1; omega)
    · refine vx_catch (own := RL) (name := gIA) (E := gIA) F.2.2.2.2.2.1 [⟨0, 227, 228, 66⟩] ⟨0, 227, 234, 68⟩ [⟨0, 227, 240, 70⟩] (by rw [htb]; rfl) (List.forall_mem_cons.mpr ⟨Or.inr ⟨by decide, gIO, F.2.2.2.2.2.2.1 (.classLink RL 66 gIO) (by decide +kernel), hKK.2.2.2.2.2.2.1 (gIA, gIO) (by decide +kernel)⟩, fun _ h_ => by cases h_⟩) rfl (by decide) (F.2.2.2.2.2.2.1 (.classLink RL 68 gIA) (by decide +kernel)) (va_Nw.use rfl (hKK.2.2.2.2.2.1 (gIA, gIA) (by decide +kernel))) hce hcv hcl ?_
      refine lv_astore (lv' := [(6, .ref q9), (0, .ref lq), (1, .int (nI 1)), (2, .int a), (3, .int b), (4, .int cv), (5, .int dv)]) hx hb dL_call_234 hl (by decide) rfl (fun ls hl => ?_)
      refine lv_sipush (v := zI (-2012)) hx hb dL_call_236 (by decide) ?_
      exact gRi F dL_call_239 rfl u ⟨rfl, hp⟩ (gPl hP) (gDl hD) hS (by have h9 := hb1.2.2.1; omega) (by have h9 := hb1.2.2.2.1; omega)
    · refine vx_catch (own := RL) (name := gIS) (E := gIS) F.2.2.2.2.2.1 [⟨0, 227, 228, 66⟩, ⟨0, 227, 234, 68⟩] ⟨0, 227, 240, 70⟩ [] (by rw [htb]; rfl) (List.forall_mem_cons.mpr ⟨Or.inr ⟨by decide, gIO, F.2.2.2.2.2.2.1 (.classLink RL 66 gIO) (by decide +kernel), hKK.2.2.2.2.2.2.1 (gIS, gIO) (by decide +kernel)⟩, List.forall_mem_cons.mpr ⟨Or.inr ⟨by decide, gIA, F.2.2.2.2.2.2.1 (.classLink RL 68 gIA) (by decide +kernel), hKK.2.2.2.2.2.2.1 (gIS, gIA) (by decide +kernel)⟩, fun _ h_ => by cases h_⟩⟩) rfl (by decide) (F.2.2.2.2.2.2.1 (.classLink RL 70 gIS) (by decide +kernel)) (va_Nw.use rfl (hKK.2.2.2.2.2.1 (gIS, gIS) (by decide +kernel))) hce hcv hcl ?_
      refine lv_astore (lv' := [(6, .ref q9), (0, .ref lq), (1, .int (nI 1)), (2, .int a), (3, .int b), (4, .int cv), (5, .int dv)]) hx hb dL_call_240 hl (by decide) rfl (fun ls hl => ?_)
      refine lv_sipush (v := zI (-2013)) hx hb dL_call_242 (by decide) ?_
      exact gRi F dL_call_245 rfl u ⟨rfl, hp⟩ (gPl hP) (gDl hD) hS (by have h9 := hb1.2.2.1; omega) (by have h9 := hb1.2.2.2.1; omega)

set_option maxHeartbeats 4000000 in
set_option maxRecDepth 100000 in
theorem call_2 (l : Launch) (G : gG) (lq : Nat) (S S' : SpT) (a b cv dv : Int32) (r : Int) (h : DoV l G lq yX3_flood wsX3_flood [.int a] S r S') : LW l G lq yL_call wsL_call { frames := 9, cells := 4, slots := 528, locals := 230 } [.int (nI 2), .int a, .int b, .int cv, .int dv] S (zI r) S' 4 528 := by
  intro wv hC
  refine gMw_mk (cc := cL_call) (nL := 7) (ret := some .int) (hh := [(0, 227, 228, 66), (0, 227, 234, 68), (0, 227, 240, 70)]) (Qc := fun A => va_Qi (S := va_W) (fun r' u => r' = zI r ∧ clS G lq u S') (gB G A (fun u => u)) A) (by decide) rfl (Nat.le_of_ble_eq_true rfl) ?_
  intro p e s m args below meth c A F htb hZ ls hl hP hD hS
  have hx := F.1
  have hb := F.2.1
  have hts := F.2.2.2.2.2.2.1
  have hKK := F.2.2.2.2.2.2.2.2.1
  have hl : lv_has ls 7 [(0, .ref lq), (1, .int (nI 2)), (2, .int a), (3, .int b), (4, .int cv), (5, .int dv)] := hl
  have hP : va_P G.1 vwCl (wv ++ []) s.heap := by rw [List.append_nil]; exact hP
  have hD : va_D A (wv ++ []) := by rw [List.append_nil]; exact hD
  generalize hH : s.heap = H at hP ⊢
  have hS0 : va_S A s.heap H [] := by rw [← hH]; exact va_S.rf
  clear hS
  have hS := hS0
  clear hS0
  generalize hLo : ([] : List Loc) = locs at hS ⊢
  refine lv_iload_n hx hb dL_call_0 rfl (lv_at hl 1 rfl) ?_
  refine bZT_ne (tgt := 17) hx hb dL_call_1 (by decide) (by decide) ?_
  refine lv_iload_n hx hb dL_call_17 rfl (lv_at hl 1 rfl) ?_
  refine lv_iconst (v := nI 1) hx hb dL_call_18 (by decide) ?_
  refine bIT_ne (tgt := 35) hx hb dL_call_19 (by decide) (by decide) ?_
  refine lv_iload_n hx hb dL_call_35 rfl (lv_at hl 1 rfl) ?_
  refine lv_iconst (v := nI 2) hx hb dL_call_36 (by decide) ?_
  refine bIF_ne (tgt := 48) hx hb dL_call_37 (by decide) (by decide) ?_
  refine lv_aload_n hx hb dL_call_40 rfl (lv_at hl 0 rfl) ?_
  refine lv_iload_n hx hb dL_call_41 rfl (lv_at hl 2 rfl) ?_
  rcases h with ⟨rm, mc, ms, hb1, hM⟩ | ⟨E, rm, mc, ms, hb1, rfl, hE, hM⟩
  · refine lqV (own := RL) (index := 18) (bytes := cX3_flood) (n := 1) (As := [.int a]) (rest := []) (c2 := 4) (s2 := 528) F hM hC gL_call_X3_flood rfl rfl hb1.1 hb1.2.1 (by decide +kernel) rfl ⟨by have h9 := hb1.2.2.2.2.1; show rm.frames + 1 ≤ 9; omega, by have h9 := hb1.2.2.2.2.2; show 8 + (3 + 11) + rm.locals ≤ 230; omega⟩ hP hD hS rfl hl.1 (Nat.le_of_ble_eq_true rfl) dL_call_42 ⟨by have h9 := hb1.2.2.1; omega, by have h9 := hb1.2.2.2.1; omega⟩ ⟨Nat.le_of_ble_eq_true rfl, Nat.le_of_ble_eq_true rfl⟩ (fun u H locs hC hP hD hS => ?_)
    refine lv_goto (tgt := 227) hx hb dL_call_45 (by decide) ?_
    exact gRi F dL_call_227 rfl u ⟨rfl, hC⟩ (gPl hP) (gDl hD) hS (Nat.le_of_ble_eq_true rfl) (Nat.le_of_ble_eq_true rfl)
  · obtain ⟨fs, h0⟩ := cl_recv hC
    refine gXrun F (gRunVx (own := RL) (C := RX3) (ci := 3) (bytes := cX3_flood) (n := 1) (As := [.int a]) (rest := []) F hZ hS (hM wv hC H.size) gL_call_X3_flood rfl rfl hb1.1 hb1.2.1 (by decide +kernel) rfl ⟨by have h9 := hb1.2.2.2.2.1; show rm.frames + 1 ≤ 9; omega, by have h9 := hb1.2.2.2.2.2; show 8 + (3 + 11) + rm.locals ≤ 230; omega⟩ hP hD (lit := wv) (wt := []) (wc := wv) (isC := List.range wv.length) (gRange wv) (gRange_nd _) rfl h0 rfl hl.1 (Nat.le_of_ble_eq_true rfl) dL_call_42 ⟨by have h9 := hb1.2.2.1; show 0 + mc ≤ 4; omega, by have h9 := hb1.2.2.2.1; show 0 + ms ≤ 528; omega⟩) hP hD hS (lit := wv) (wt := []) (wc := wv) (isC := List.range wv.length) (wr := []) (isR := []) (gRange wv) rfl rfl (fun _ h_ => by cases h_) (fun ce q9 u H locs hp hP hD hS hce hcv hcl => ?_)
    have hP : va_P G.1 vwCl (u ++ []) H := hP
    have hD : va_D A (u ++ []) := hD
    rcases hE with ⟨rfl, rfl⟩ | ⟨rfl, rfl⟩ | ⟨rfl, rfl⟩
    · refine vx_catch (own := RL) (name := gIO) (E := gIO) F.2.2.2.2.2.1 [] ⟨0, 227, 228, 66⟩ [⟨0, 227, 234, 68⟩, ⟨0, 227, 240, 70⟩] (by rw [htb]; rfl) (fun _ h_ => by cases h_) rfl (by decide) (F.2.2.2.2.2.2.1 (.classLink RL 66 gIO) (by decide +kernel)) (va_Nw.use rfl (hKK.2.2.2.2.2.1 (gIO, gIO) (by decide +kernel))) hce hcv hcl ?_
      refine lv_astore (lv' := [(6, .ref q9), (0, .ref lq), (1, .int (nI 2)), (2, .int a), (3, .int b), (4, .int cv), (5, .int dv)]) hx hb dL_call_228 hl (by decide) rfl (fun ls hl => ?_)
      refine lv_sipush (v := zI (-2011)) hx hb dL_call_230 (by decide) ?_
      exact gRi F dL_call_233 rfl u ⟨rfl, hp⟩ (gPl hP) (gDl hD) hS (by have h9 := hb1.2.2.1; omega) (by have h9 := hb1.2.2.2.1; omega)
    · refine vx_catch (own := RL) (name := gIA) (E := gIA) F.2.2.2.2.2.1 [⟨0, 227, 228, 66⟩] ⟨0, 227, 234, 68⟩ [⟨0, 227, 240, 70⟩] (by rw [htb]; rfl) (List.forall_mem_cons.mpr ⟨Or.inr ⟨by decide, gIO, F.2.2.2.2.2.2.1 (.classLink RL 66 gIO) (by decide +kernel), hKK.2.2.2.2.2.2.1 (gIA, gIO) (by decide +kernel)⟩, fun _ h_ => by cases h_⟩) rfl (by decide) (F.2.2.2.2.2.2.1 (.classLink RL 68 gIA) (by decide +kernel)) (va_Nw.use rfl (hKK.2.2.2.2.2.1 (gIA, gIA) (by decide +kernel))) hce hcv hcl ?_
      refine lv_astore (lv' := [(6, .ref q9), (0, .ref lq), (1, .int (nI 2)), (2, .int a), (3, .int b), (4, .int cv), (5, .int dv)]) hx hb dL_call_234 hl (by decide) rfl (fun ls hl => ?_)
      refine lv_sipush (v := zI (-2012)) hx hb dL_call_236 (by decide) ?_
      exact gRi F dL_call_239 rfl u ⟨rfl, hp⟩ (gPl hP) (gDl hD) hS (by have h9 := hb1.2.2.1; omega) (by have h9 := hb1.2.2.2.1; omega)
    · refine vx_catch (own := RL) (name := gIS) (E := gIS) F.2.2.2.2.2.1 [⟨0, 227, 228, 66⟩, ⟨0, 227, 234, 68⟩] ⟨0, 227, 240, 70⟩ [] (by rw [htb]; rfl) (List.forall_mem_cons.mpr ⟨Or.inr ⟨by decide, gIO, F.2.2.2.2.2.2.1 (.classLink RL 66 gIO) (by decide +kernel), hKK.2.2.2.2.2.2.1 (gIS, gIO) (by decide +kernel)⟩, List.forall_mem_cons.mpr ⟨Or.inr ⟨by decide, gIA, F.2.2.2.2.2.2.1 (.classLink RL 68 gIA) (by decide +kernel), hKK.2.2.2.2.2.2.1 (gIS, gIA) (by decide +kernel)⟩, fun _ h_ => by cases h_⟩⟩) rfl (by decide) (F.2.2.2.2.2.2.1 (.classLink RL 70 gIS) (by decide +kernel)) (va_Nw.use rfl (hKK.2.2.2.2.2.1 (gIS, gIS) (by decide +kernel))) hce hcv hcl ?_
      refine lv_astore (lv' := [(6, .ref q9), (0, .ref lq), (1, .int (nI 2)), (2, .int a), (3, .int b), (4, .int cv), (5, .int dv)]) hx hb dL_call_240 hl (by decide) rfl (fun ls hl => ?_)
      refine lv_sipush (v := zI (-2013)) hx hb dL_call_242 (by decide) ?_
      exact gRi F dL_call_245 rfl u ⟨rfl, hp⟩ (gPl hP) (gDl hD) hS (by have h9 := hb1.2.2.1; omega) (by have h9 := hb1.2.2.2.1; omega)

set_option maxHeartbeats 4000000 in
set_option maxRecDepth 100000 in
theorem call_3 (l : Launch) (G : gG) (lq : Nat) (S S' : SpT) (a b cv dv : Int32) (r : Int) (h : DoV l G lq yX3_buyPlot wsX3_buyPlot [.int a, .int b, .int cv] S r S') : LW l G lq yL_call wsL_call { frames := 9, cells := 4, slots := 528, locals := 230 } [.int (nI 3), .int a, .int b, .int cv, .int dv] S (zI r) S' 4 528 := by
  intro wv hC
  refine gMw_mk (cc := cL_call) (nL := 7) (ret := some .int) (hh := [(0, 227, 228, 66), (0, 227, 234, 68), (0, 227, 240, 70)]) (Qc := fun A => va_Qi (S := va_W) (fun r' u => r' = zI r ∧ clS G lq u S') (gB G A (fun u => u)) A) (by decide) rfl (Nat.le_of_ble_eq_true rfl) ?_
  intro p e s m args below meth c A F htb hZ ls hl hP hD hS
  have hx := F.1
  have hb := F.2.1
  have hts := F.2.2.2.2.2.2.1
  have hKK := F.2.2.2.2.2.2.2.2.1
  have hl : lv_has ls 7 [(0, .ref lq), (1, .int (nI 3)), (2, .int a), (3, .int b), (4, .int cv), (5, .int dv)] := hl
  have hP : va_P G.1 vwCl (wv ++ []) s.heap := by rw [List.append_nil]; exact hP
  have hD : va_D A (wv ++ []) := by rw [List.append_nil]; exact hD
  generalize hH : s.heap = H at hP ⊢
  have hS0 : va_S A s.heap H [] := by rw [← hH]; exact va_S.rf
  clear hS
  have hS := hS0
  clear hS0
  generalize hLo : ([] : List Loc) = locs at hS ⊢
  refine lv_iload_n hx hb dL_call_0 rfl (lv_at hl 1 rfl) ?_
  refine bZT_ne (tgt := 17) hx hb dL_call_1 (by decide) (by decide) ?_
  refine lv_iload_n hx hb dL_call_17 rfl (lv_at hl 1 rfl) ?_
  refine lv_iconst (v := nI 1) hx hb dL_call_18 (by decide) ?_
  refine bIT_ne (tgt := 35) hx hb dL_call_19 (by decide) (by decide) ?_
  refine lv_iload_n hx hb dL_call_35 rfl (lv_at hl 1 rfl) ?_
  refine lv_iconst (v := nI 2) hx hb dL_call_36 (by decide) ?_
  refine bIT_ne (tgt := 48) hx hb dL_call_37 (by decide) (by decide) ?_
  refine lv_iload_n hx hb dL_call_48 rfl (lv_at hl 1 rfl) ?_
  refine lv_iconst (v := nI 3) hx hb dL_call_49 (by decide) ?_
  refine bIF_ne (tgt := 64) hx hb dL_call_50 (by decide) (by decide) ?_
  refine lv_aload_n hx hb dL_call_53 rfl (lv_at hl 0 rfl) ?_
  refine lv_iload_n hx hb dL_call_54 rfl (lv_at hl 2 rfl) ?_
  refine lv_iload_n hx hb dL_call_55 rfl (lv_at hl 3 rfl) ?_
  refine lv_iload hx hb dL_call_56 (lv_at hl 4 rfl) ?_
  rcases h with ⟨rm, mc, ms, hb1, hM⟩ | ⟨E, rm, mc, ms, hb1, rfl, hE, hM⟩
  · refine lqV (own := RL) (index := 22) (bytes := cX3_buyPlot) (n := 3) (As := [.int a, .int b, .int cv]) (rest := []) (c2 := 4) (s2 := 528) F hM hC gL_call_X3_buyPlot rfl rfl hb1.1 hb1.2.1 (by decide +kernel) rfl ⟨by have h9 := hb1.2.2.2.2.1; show rm.frames + 1 ≤ 9; omega, by have h9 := hb1.2.2.2.2.2; show 8 + (9 + 11) + rm.locals ≤ 230; omega⟩ hP hD hS rfl hl.1 (Nat.le_of_ble_eq_true rfl) dL_call_58 ⟨by have h9 := hb1.2.2.1; omega, by have h9 := hb1.2.2.2.1; omega⟩ ⟨Nat.le_of_ble_eq_true rfl, Nat.le_of_ble_eq_true rfl⟩ (fun u H locs hC hP hD hS => ?_)
    refine lv_goto (tgt := 227) hx hb dL_call_61 (by decide) ?_
    exact gRi F dL_call_227 rfl u ⟨rfl, hC⟩ (gPl hP) (gDl hD) hS (Nat.le_of_ble_eq_true rfl) (Nat.le_of_ble_eq_true rfl)
  · obtain ⟨fs, h0⟩ := cl_recv hC
    refine gXrun F (gRunVx (own := RL) (C := RX3) (ci := 3) (bytes := cX3_buyPlot) (n := 3) (As := [.int a, .int b, .int cv]) (rest := []) F hZ hS (hM wv hC H.size) gL_call_X3_buyPlot rfl rfl hb1.1 hb1.2.1 (by decide +kernel) rfl ⟨by have h9 := hb1.2.2.2.2.1; show rm.frames + 1 ≤ 9; omega, by have h9 := hb1.2.2.2.2.2; show 8 + (9 + 11) + rm.locals ≤ 230; omega⟩ hP hD (lit := wv) (wt := []) (wc := wv) (isC := List.range wv.length) (gRange wv) (gRange_nd _) rfl h0 rfl hl.1 (Nat.le_of_ble_eq_true rfl) dL_call_58 ⟨by have h9 := hb1.2.2.1; show 0 + mc ≤ 4; omega, by have h9 := hb1.2.2.2.1; show 0 + ms ≤ 528; omega⟩) hP hD hS (lit := wv) (wt := []) (wc := wv) (isC := List.range wv.length) (wr := []) (isR := []) (gRange wv) rfl rfl (fun _ h_ => by cases h_) (fun ce q9 u H locs hp hP hD hS hce hcv hcl => ?_)
    have hP : va_P G.1 vwCl (u ++ []) H := hP
    have hD : va_D A (u ++ []) := hD
    rcases hE with ⟨rfl, rfl⟩ | ⟨rfl, rfl⟩ | ⟨rfl, rfl⟩
    · refine vx_catch (own := RL) (name := gIO) (E := gIO) F.2.2.2.2.2.1 [] ⟨0, 227, 228, 66⟩ [⟨0, 227, 234, 68⟩, ⟨0, 227, 240, 70⟩] (by rw [htb]; rfl) (fun _ h_ => by cases h_) rfl (by decide) (F.2.2.2.2.2.2.1 (.classLink RL 66 gIO) (by decide +kernel)) (va_Nw.use rfl (hKK.2.2.2.2.2.1 (gIO, gIO) (by decide +kernel))) hce hcv hcl ?_
      refine lv_astore (lv' := [(6, .ref q9), (0, .ref lq), (1, .int (nI 3)), (2, .int a), (3, .int b), (4, .int cv), (5, .int dv)]) hx hb dL_call_228 hl (by decide) rfl (fun ls hl => ?_)
      refine lv_sipush (v := zI (-2011)) hx hb dL_call_230 (by decide) ?_
      exact gRi F dL_call_233 rfl u ⟨rfl, hp⟩ (gPl hP) (gDl hD) hS (by have h9 := hb1.2.2.1; omega) (by have h9 := hb1.2.2.2.1; omega)
    · refine vx_catch (own := RL) (name := gIA) (E := gIA) F.2.2.2.2.2.1 [⟨0, 227, 228, 66⟩] ⟨0, 227, 234, 68⟩ [⟨0, 227, 240, 70⟩] (by rw [htb]; rfl) (List.forall_mem_cons.mpr ⟨Or.inr ⟨by decide, gIO, F.2.2.2.2.2.2.1 (.classLink RL 66 gIO) (by decide +kernel), hKK.2.2.2.2.2.2.1 (gIA, gIO) (by decide +kernel)⟩, fun _ h_ => by cases h_⟩) rfl (by decide) (F.2.2.2.2.2.2.1 (.classLink RL 68 gIA) (by decide +kernel)) (va_Nw.use rfl (hKK.2.2.2.2.2.1 (gIA, gIA) (by decide +kernel))) hce hcv hcl ?_
      refine lv_astore (lv' := [(6, .ref q9), (0, .ref lq), (1, .int (nI 3)), (2, .int a), (3, .int b), (4, .int cv), (5, .int dv)]) hx hb dL_call_234 hl (by decide) rfl (fun ls hl => ?_)
      refine lv_sipush (v := zI (-2012)) hx hb dL_call_236 (by decide) ?_
      exact gRi F dL_call_239 rfl u ⟨rfl, hp⟩ (gPl hP) (gDl hD) hS (by have h9 := hb1.2.2.1; omega) (by have h9 := hb1.2.2.2.1; omega)
    · refine vx_catch (own := RL) (name := gIS) (E := gIS) F.2.2.2.2.2.1 [⟨0, 227, 228, 66⟩, ⟨0, 227, 234, 68⟩] ⟨0, 227, 240, 70⟩ [] (by rw [htb]; rfl) (List.forall_mem_cons.mpr ⟨Or.inr ⟨by decide, gIO, F.2.2.2.2.2.2.1 (.classLink RL 66 gIO) (by decide +kernel), hKK.2.2.2.2.2.2.1 (gIS, gIO) (by decide +kernel)⟩, List.forall_mem_cons.mpr ⟨Or.inr ⟨by decide, gIA, F.2.2.2.2.2.2.1 (.classLink RL 68 gIA) (by decide +kernel), hKK.2.2.2.2.2.2.1 (gIS, gIA) (by decide +kernel)⟩, fun _ h_ => by cases h_⟩⟩) rfl (by decide) (F.2.2.2.2.2.2.1 (.classLink RL 70 gIS) (by decide +kernel)) (va_Nw.use rfl (hKK.2.2.2.2.2.1 (gIS, gIS) (by decide +kernel))) hce hcv hcl ?_
      refine lv_astore (lv' := [(6, .ref q9), (0, .ref lq), (1, .int (nI 3)), (2, .int a), (3, .int b), (4, .int cv), (5, .int dv)]) hx hb dL_call_240 hl (by decide) rfl (fun ls hl => ?_)
      refine lv_sipush (v := zI (-2013)) hx hb dL_call_242 (by decide) ?_
      exact gRi F dL_call_245 rfl u ⟨rfl, hp⟩ (gPl hP) (gDl hD) hS (by have h9 := hb1.2.2.1; omega) (by have h9 := hb1.2.2.2.1; omega)

set_option maxHeartbeats 4000000 in
set_option maxRecDepth 100000 in
theorem call_4 (l : Launch) (G : gG) (lq : Nat) (S S' : SpT) (a b cv dv : Int32) (r : Int) (h : DoV l G lq yX3_buySquare wsX3_buySquare [.int a, .int b, .int cv, .int dv] S r S') : LW l G lq yL_call wsL_call { frames := 9, cells := 4, slots := 528, locals := 230 } [.int (nI 4), .int a, .int b, .int cv, .int dv] S (zI r) S' 4 528 := by
  intro wv hC
  refine gMw_mk (cc := cL_call) (nL := 7) (ret := some .int) (hh := [(0, 227, 228, 66), (0, 227, 234, 68), (0, 227, 240, 70)]) (Qc := fun A => va_Qi (S := va_W) (fun r' u => r' = zI r ∧ clS G lq u S') (gB G A (fun u => u)) A) (by decide) rfl (Nat.le_of_ble_eq_true rfl) ?_
  intro p e s m args below meth c A F htb hZ ls hl hP hD hS
  have hx := F.1
  have hb := F.2.1
  have hts := F.2.2.2.2.2.2.1
  have hKK := F.2.2.2.2.2.2.2.2.1
  have hl : lv_has ls 7 [(0, .ref lq), (1, .int (nI 4)), (2, .int a), (3, .int b), (4, .int cv), (5, .int dv)] := hl
  have hP : va_P G.1 vwCl (wv ++ []) s.heap := by rw [List.append_nil]; exact hP
  have hD : va_D A (wv ++ []) := by rw [List.append_nil]; exact hD
  generalize hH : s.heap = H at hP ⊢
  have hS0 : va_S A s.heap H [] := by rw [← hH]; exact va_S.rf
  clear hS
  have hS := hS0
  clear hS0
  generalize hLo : ([] : List Loc) = locs at hS ⊢
  refine lv_iload_n hx hb dL_call_0 rfl (lv_at hl 1 rfl) ?_
  refine bZT_ne (tgt := 17) hx hb dL_call_1 (by decide) (by decide) ?_
  refine lv_iload_n hx hb dL_call_17 rfl (lv_at hl 1 rfl) ?_
  refine lv_iconst (v := nI 1) hx hb dL_call_18 (by decide) ?_
  refine bIT_ne (tgt := 35) hx hb dL_call_19 (by decide) (by decide) ?_
  refine lv_iload_n hx hb dL_call_35 rfl (lv_at hl 1 rfl) ?_
  refine lv_iconst (v := nI 2) hx hb dL_call_36 (by decide) ?_
  refine bIT_ne (tgt := 48) hx hb dL_call_37 (by decide) (by decide) ?_
  refine lv_iload_n hx hb dL_call_48 rfl (lv_at hl 1 rfl) ?_
  refine lv_iconst (v := nI 3) hx hb dL_call_49 (by decide) ?_
  refine bIT_ne (tgt := 64) hx hb dL_call_50 (by decide) (by decide) ?_
  refine lv_iload_n hx hb dL_call_64 rfl (lv_at hl 1 rfl) ?_
  refine lv_iconst (v := nI 4) hx hb dL_call_65 (by decide) ?_
  refine bIF_ne (tgt := 82) hx hb dL_call_66 (by decide) (by decide) ?_
  refine lv_aload_n hx hb dL_call_69 rfl (lv_at hl 0 rfl) ?_
  refine lv_iload_n hx hb dL_call_70 rfl (lv_at hl 2 rfl) ?_
  refine lv_iload_n hx hb dL_call_71 rfl (lv_at hl 3 rfl) ?_
  refine lv_iload hx hb dL_call_72 (lv_at hl 4 rfl) ?_
  refine lv_iload hx hb dL_call_74 (lv_at hl 5 rfl) ?_
  rcases h with ⟨rm, mc, ms, hb1, hM⟩ | ⟨E, rm, mc, ms, hb1, rfl, hE, hM⟩
  · refine lqV (own := RL) (index := 26) (bytes := cX3_buySquare) (n := 4) (As := [.int a, .int b, .int cv, .int dv]) (rest := []) (c2 := 4) (s2 := 528) F hM hC gL_call_X3_buySquare rfl rfl hb1.1 hb1.2.1 (by decide +kernel) rfl ⟨by have h9 := hb1.2.2.2.2.1; show rm.frames + 1 ≤ 9; omega, by have h9 := hb1.2.2.2.2.2; show 8 + (6 + 11) + rm.locals ≤ 230; omega⟩ hP hD hS rfl hl.1 (Nat.le_of_ble_eq_true rfl) dL_call_76 ⟨by have h9 := hb1.2.2.1; omega, by have h9 := hb1.2.2.2.1; omega⟩ ⟨Nat.le_of_ble_eq_true rfl, Nat.le_of_ble_eq_true rfl⟩ (fun u H locs hC hP hD hS => ?_)
    refine lv_goto (tgt := 227) hx hb dL_call_79 (by decide) ?_
    exact gRi F dL_call_227 rfl u ⟨rfl, hC⟩ (gPl hP) (gDl hD) hS (Nat.le_of_ble_eq_true rfl) (Nat.le_of_ble_eq_true rfl)
  · obtain ⟨fs, h0⟩ := cl_recv hC
    refine gXrun F (gRunVx (own := RL) (C := RX3) (ci := 3) (bytes := cX3_buySquare) (n := 4) (As := [.int a, .int b, .int cv, .int dv]) (rest := []) F hZ hS (hM wv hC H.size) gL_call_X3_buySquare rfl rfl hb1.1 hb1.2.1 (by decide +kernel) rfl ⟨by have h9 := hb1.2.2.2.2.1; show rm.frames + 1 ≤ 9; omega, by have h9 := hb1.2.2.2.2.2; show 8 + (6 + 11) + rm.locals ≤ 230; omega⟩ hP hD (lit := wv) (wt := []) (wc := wv) (isC := List.range wv.length) (gRange wv) (gRange_nd _) rfl h0 rfl hl.1 (Nat.le_of_ble_eq_true rfl) dL_call_76 ⟨by have h9 := hb1.2.2.1; show 0 + mc ≤ 4; omega, by have h9 := hb1.2.2.2.1; show 0 + ms ≤ 528; omega⟩) hP hD hS (lit := wv) (wt := []) (wc := wv) (isC := List.range wv.length) (wr := []) (isR := []) (gRange wv) rfl rfl (fun _ h_ => by cases h_) (fun ce q9 u H locs hp hP hD hS hce hcv hcl => ?_)
    have hP : va_P G.1 vwCl (u ++ []) H := hP
    have hD : va_D A (u ++ []) := hD
    rcases hE with ⟨rfl, rfl⟩ | ⟨rfl, rfl⟩ | ⟨rfl, rfl⟩
    · refine vx_catch (own := RL) (name := gIO) (E := gIO) F.2.2.2.2.2.1 [] ⟨0, 227, 228, 66⟩ [⟨0, 227, 234, 68⟩, ⟨0, 227, 240, 70⟩] (by rw [htb]; rfl) (fun _ h_ => by cases h_) rfl (by decide) (F.2.2.2.2.2.2.1 (.classLink RL 66 gIO) (by decide +kernel)) (va_Nw.use rfl (hKK.2.2.2.2.2.1 (gIO, gIO) (by decide +kernel))) hce hcv hcl ?_
      refine lv_astore (lv' := [(6, .ref q9), (0, .ref lq), (1, .int (nI 4)), (2, .int a), (3, .int b), (4, .int cv), (5, .int dv)]) hx hb dL_call_228 hl (by decide) rfl (fun ls hl => ?_)
      refine lv_sipush (v := zI (-2011)) hx hb dL_call_230 (by decide) ?_
      exact gRi F dL_call_233 rfl u ⟨rfl, hp⟩ (gPl hP) (gDl hD) hS (by have h9 := hb1.2.2.1; omega) (by have h9 := hb1.2.2.2.1; omega)
    · refine vx_catch (own := RL) (name := gIA) (E := gIA) F.2.2.2.2.2.1 [⟨0, 227, 228, 66⟩] ⟨0, 227, 234, 68⟩ [⟨0, 227, 240, 70⟩] (by rw [htb]; rfl) (List.forall_mem_cons.mpr ⟨Or.inr ⟨by decide, gIO, F.2.2.2.2.2.2.1 (.classLink RL 66 gIO) (by decide +kernel), hKK.2.2.2.2.2.2.1 (gIA, gIO) (by decide +kernel)⟩, fun _ h_ => by cases h_⟩) rfl (by decide) (F.2.2.2.2.2.2.1 (.classLink RL 68 gIA) (by decide +kernel)) (va_Nw.use rfl (hKK.2.2.2.2.2.1 (gIA, gIA) (by decide +kernel))) hce hcv hcl ?_
      refine lv_astore (lv' := [(6, .ref q9), (0, .ref lq), (1, .int (nI 4)), (2, .int a), (3, .int b), (4, .int cv), (5, .int dv)]) hx hb dL_call_234 hl (by decide) rfl (fun ls hl => ?_)
      refine lv_sipush (v := zI (-2012)) hx hb dL_call_236 (by decide) ?_
      exact gRi F dL_call_239 rfl u ⟨rfl, hp⟩ (gPl hP) (gDl hD) hS (by have h9 := hb1.2.2.1; omega) (by have h9 := hb1.2.2.2.1; omega)
    · refine vx_catch (own := RL) (name := gIS) (E := gIS) F.2.2.2.2.2.1 [⟨0, 227, 228, 66⟩, ⟨0, 227, 234, 68⟩] ⟨0, 227, 240, 70⟩ [] (by rw [htb]; rfl) (List.forall_mem_cons.mpr ⟨Or.inr ⟨by decide, gIO, F.2.2.2.2.2.2.1 (.classLink RL 66 gIO) (by decide +kernel), hKK.2.2.2.2.2.2.1 (gIS, gIO) (by decide +kernel)⟩, List.forall_mem_cons.mpr ⟨Or.inr ⟨by decide, gIA, F.2.2.2.2.2.2.1 (.classLink RL 68 gIA) (by decide +kernel), hKK.2.2.2.2.2.2.1 (gIS, gIA) (by decide +kernel)⟩, fun _ h_ => by cases h_⟩⟩) rfl (by decide) (F.2.2.2.2.2.2.1 (.classLink RL 70 gIS) (by decide +kernel)) (va_Nw.use rfl (hKK.2.2.2.2.2.1 (gIS, gIS) (by decide +kernel))) hce hcv hcl ?_
      refine lv_astore (lv' := [(6, .ref q9), (0, .ref lq), (1, .int (nI 4)), (2, .int a), (3, .int b), (4, .int cv), (5, .int dv)]) hx hb dL_call_240 hl (by decide) rfl (fun ls hl => ?_)
      refine lv_sipush (v := zI (-2013)) hx hb dL_call_242 (by decide) ?_
      exact gRi F dL_call_245 rfl u ⟨rfl, hp⟩ (gPl hP) (gDl hD) hS (by have h9 := hb1.2.2.1; omega) (by have h9 := hb1.2.2.2.1; omega)

set_option maxHeartbeats 4000000 in
set_option maxRecDepth 100000 in
theorem call_5 (l : Launch) (G : gG) (lq : Nat) (S S' : SpT) (a b cv dv : Int32) (r : Int) (h : DoV l G lq yX3_setPrice wsX3_setPrice [.int a] S r S') : LW l G lq yL_call wsL_call { frames := 9, cells := 4, slots := 528, locals := 230 } [.int (nI 5), .int a, .int b, .int cv, .int dv] S (zI r) S' 4 528 := by
  intro wv hC
  refine gMw_mk (cc := cL_call) (nL := 7) (ret := some .int) (hh := [(0, 227, 228, 66), (0, 227, 234, 68), (0, 227, 240, 70)]) (Qc := fun A => va_Qi (S := va_W) (fun r' u => r' = zI r ∧ clS G lq u S') (gB G A (fun u => u)) A) (by decide) rfl (Nat.le_of_ble_eq_true rfl) ?_
  intro p e s m args below meth c A F htb hZ ls hl hP hD hS
  have hx := F.1
  have hb := F.2.1
  have hts := F.2.2.2.2.2.2.1
  have hKK := F.2.2.2.2.2.2.2.2.1
  have hl : lv_has ls 7 [(0, .ref lq), (1, .int (nI 5)), (2, .int a), (3, .int b), (4, .int cv), (5, .int dv)] := hl
  have hP : va_P G.1 vwCl (wv ++ []) s.heap := by rw [List.append_nil]; exact hP
  have hD : va_D A (wv ++ []) := by rw [List.append_nil]; exact hD
  generalize hH : s.heap = H at hP ⊢
  have hS0 : va_S A s.heap H [] := by rw [← hH]; exact va_S.rf
  clear hS
  have hS := hS0
  clear hS0
  generalize hLo : ([] : List Loc) = locs at hS ⊢
  refine lv_iload_n hx hb dL_call_0 rfl (lv_at hl 1 rfl) ?_
  refine bZT_ne (tgt := 17) hx hb dL_call_1 (by decide) (by decide) ?_
  refine lv_iload_n hx hb dL_call_17 rfl (lv_at hl 1 rfl) ?_
  refine lv_iconst (v := nI 1) hx hb dL_call_18 (by decide) ?_
  refine bIT_ne (tgt := 35) hx hb dL_call_19 (by decide) (by decide) ?_
  refine lv_iload_n hx hb dL_call_35 rfl (lv_at hl 1 rfl) ?_
  refine lv_iconst (v := nI 2) hx hb dL_call_36 (by decide) ?_
  refine bIT_ne (tgt := 48) hx hb dL_call_37 (by decide) (by decide) ?_
  refine lv_iload_n hx hb dL_call_48 rfl (lv_at hl 1 rfl) ?_
  refine lv_iconst (v := nI 3) hx hb dL_call_49 (by decide) ?_
  refine bIT_ne (tgt := 64) hx hb dL_call_50 (by decide) (by decide) ?_
  refine lv_iload_n hx hb dL_call_64 rfl (lv_at hl 1 rfl) ?_
  refine lv_iconst (v := nI 4) hx hb dL_call_65 (by decide) ?_
  refine bIT_ne (tgt := 82) hx hb dL_call_66 (by decide) (by decide) ?_
  refine lv_iload_n hx hb dL_call_82 rfl (lv_at hl 1 rfl) ?_
  refine lv_iconst (v := nI 5) hx hb dL_call_83 (by decide) ?_
  refine bIF_ne (tgt := 95) hx hb dL_call_84 (by decide) (by decide) ?_
  refine lv_aload_n hx hb dL_call_87 rfl (lv_at hl 0 rfl) ?_
  refine lv_iload_n hx hb dL_call_88 rfl (lv_at hl 2 rfl) ?_
  rcases h with ⟨rm, mc, ms, hb1, hM⟩ | ⟨E, rm, mc, ms, hb1, rfl, hE, hM⟩
  · refine lqV (own := RL) (index := 29) (bytes := cX3_setPrice) (n := 1) (As := [.int a]) (rest := []) (c2 := 4) (s2 := 528) F hM hC gL_call_X3_setPrice rfl rfl hb1.1 hb1.2.1 (by decide +kernel) rfl ⟨by have h9 := hb1.2.2.2.2.1; show rm.frames + 1 ≤ 9; omega, by have h9 := hb1.2.2.2.2.2; show 8 + (3 + 11) + rm.locals ≤ 230; omega⟩ hP hD hS rfl hl.1 (Nat.le_of_ble_eq_true rfl) dL_call_89 ⟨by have h9 := hb1.2.2.1; omega, by have h9 := hb1.2.2.2.1; omega⟩ ⟨Nat.le_of_ble_eq_true rfl, Nat.le_of_ble_eq_true rfl⟩ (fun u H locs hC hP hD hS => ?_)
    refine lv_goto (tgt := 227) hx hb dL_call_92 (by decide) ?_
    exact gRi F dL_call_227 rfl u ⟨rfl, hC⟩ (gPl hP) (gDl hD) hS (Nat.le_of_ble_eq_true rfl) (Nat.le_of_ble_eq_true rfl)
  · obtain ⟨fs, h0⟩ := cl_recv hC
    refine gXrun F (gRunVx (own := RL) (C := RX3) (ci := 3) (bytes := cX3_setPrice) (n := 1) (As := [.int a]) (rest := []) F hZ hS (hM wv hC H.size) gL_call_X3_setPrice rfl rfl hb1.1 hb1.2.1 (by decide +kernel) rfl ⟨by have h9 := hb1.2.2.2.2.1; show rm.frames + 1 ≤ 9; omega, by have h9 := hb1.2.2.2.2.2; show 8 + (3 + 11) + rm.locals ≤ 230; omega⟩ hP hD (lit := wv) (wt := []) (wc := wv) (isC := List.range wv.length) (gRange wv) (gRange_nd _) rfl h0 rfl hl.1 (Nat.le_of_ble_eq_true rfl) dL_call_89 ⟨by have h9 := hb1.2.2.1; show 0 + mc ≤ 4; omega, by have h9 := hb1.2.2.2.1; show 0 + ms ≤ 528; omega⟩) hP hD hS (lit := wv) (wt := []) (wc := wv) (isC := List.range wv.length) (wr := []) (isR := []) (gRange wv) rfl rfl (fun _ h_ => by cases h_) (fun ce q9 u H locs hp hP hD hS hce hcv hcl => ?_)
    have hP : va_P G.1 vwCl (u ++ []) H := hP
    have hD : va_D A (u ++ []) := hD
    rcases hE with ⟨rfl, rfl⟩ | ⟨rfl, rfl⟩ | ⟨rfl, rfl⟩
    · refine vx_catch (own := RL) (name := gIO) (E := gIO) F.2.2.2.2.2.1 [] ⟨0, 227, 228, 66⟩ [⟨0, 227, 234, 68⟩, ⟨0, 227, 240, 70⟩] (by rw [htb]; rfl) (fun _ h_ => by cases h_) rfl (by decide) (F.2.2.2.2.2.2.1 (.classLink RL 66 gIO) (by decide +kernel)) (va_Nw.use rfl (hKK.2.2.2.2.2.1 (gIO, gIO) (by decide +kernel))) hce hcv hcl ?_
      refine lv_astore (lv' := [(6, .ref q9), (0, .ref lq), (1, .int (nI 5)), (2, .int a), (3, .int b), (4, .int cv), (5, .int dv)]) hx hb dL_call_228 hl (by decide) rfl (fun ls hl => ?_)
      refine lv_sipush (v := zI (-2011)) hx hb dL_call_230 (by decide) ?_
      exact gRi F dL_call_233 rfl u ⟨rfl, hp⟩ (gPl hP) (gDl hD) hS (by have h9 := hb1.2.2.1; omega) (by have h9 := hb1.2.2.2.1; omega)
    · refine vx_catch (own := RL) (name := gIA) (E := gIA) F.2.2.2.2.2.1 [⟨0, 227, 228, 66⟩] ⟨0, 227, 234, 68⟩ [⟨0, 227, 240, 70⟩] (by rw [htb]; rfl) (List.forall_mem_cons.mpr ⟨Or.inr ⟨by decide, gIO, F.2.2.2.2.2.2.1 (.classLink RL 66 gIO) (by decide +kernel), hKK.2.2.2.2.2.2.1 (gIA, gIO) (by decide +kernel)⟩, fun _ h_ => by cases h_⟩) rfl (by decide) (F.2.2.2.2.2.2.1 (.classLink RL 68 gIA) (by decide +kernel)) (va_Nw.use rfl (hKK.2.2.2.2.2.1 (gIA, gIA) (by decide +kernel))) hce hcv hcl ?_
      refine lv_astore (lv' := [(6, .ref q9), (0, .ref lq), (1, .int (nI 5)), (2, .int a), (3, .int b), (4, .int cv), (5, .int dv)]) hx hb dL_call_234 hl (by decide) rfl (fun ls hl => ?_)
      refine lv_sipush (v := zI (-2012)) hx hb dL_call_236 (by decide) ?_
      exact gRi F dL_call_239 rfl u ⟨rfl, hp⟩ (gPl hP) (gDl hD) hS (by have h9 := hb1.2.2.1; omega) (by have h9 := hb1.2.2.2.1; omega)
    · refine vx_catch (own := RL) (name := gIS) (E := gIS) F.2.2.2.2.2.1 [⟨0, 227, 228, 66⟩, ⟨0, 227, 234, 68⟩] ⟨0, 227, 240, 70⟩ [] (by rw [htb]; rfl) (List.forall_mem_cons.mpr ⟨Or.inr ⟨by decide, gIO, F.2.2.2.2.2.2.1 (.classLink RL 66 gIO) (by decide +kernel), hKK.2.2.2.2.2.2.1 (gIS, gIO) (by decide +kernel)⟩, List.forall_mem_cons.mpr ⟨Or.inr ⟨by decide, gIA, F.2.2.2.2.2.2.1 (.classLink RL 68 gIA) (by decide +kernel), hKK.2.2.2.2.2.2.1 (gIS, gIA) (by decide +kernel)⟩, fun _ h_ => by cases h_⟩⟩) rfl (by decide) (F.2.2.2.2.2.2.1 (.classLink RL 70 gIS) (by decide +kernel)) (va_Nw.use rfl (hKK.2.2.2.2.2.1 (gIS, gIS) (by decide +kernel))) hce hcv hcl ?_
      refine lv_astore (lv' := [(6, .ref q9), (0, .ref lq), (1, .int (nI 5)), (2, .int a), (3, .int b), (4, .int cv), (5, .int dv)]) hx hb dL_call_240 hl (by decide) rfl (fun ls hl => ?_)
      refine lv_sipush (v := zI (-2013)) hx hb dL_call_242 (by decide) ?_
      exact gRi F dL_call_245 rfl u ⟨rfl, hp⟩ (gPl hP) (gDl hD) hS (by have h9 := hb1.2.2.1; omega) (by have h9 := hb1.2.2.2.1; omega)

set_option maxHeartbeats 4000000 in
set_option maxRecDepth 100000 in
theorem call_6 (l : Launch) (G : gG) (lq : Nat) (S S' : SpT) (a b cv dv : Int32) (r : Int) (h : DoV l G lq yX3_setTax wsX3_setTax [.int a] S r S') : LW l G lq yL_call wsL_call { frames := 9, cells := 4, slots := 528, locals := 230 } [.int (nI 6), .int a, .int b, .int cv, .int dv] S (zI r) S' 4 528 := by
  intro wv hC
  refine gMw_mk (cc := cL_call) (nL := 7) (ret := some .int) (hh := [(0, 227, 228, 66), (0, 227, 234, 68), (0, 227, 240, 70)]) (Qc := fun A => va_Qi (S := va_W) (fun r' u => r' = zI r ∧ clS G lq u S') (gB G A (fun u => u)) A) (by decide) rfl (Nat.le_of_ble_eq_true rfl) ?_
  intro p e s m args below meth c A F htb hZ ls hl hP hD hS
  have hx := F.1
  have hb := F.2.1
  have hts := F.2.2.2.2.2.2.1
  have hKK := F.2.2.2.2.2.2.2.2.1
  have hl : lv_has ls 7 [(0, .ref lq), (1, .int (nI 6)), (2, .int a), (3, .int b), (4, .int cv), (5, .int dv)] := hl
  have hP : va_P G.1 vwCl (wv ++ []) s.heap := by rw [List.append_nil]; exact hP
  have hD : va_D A (wv ++ []) := by rw [List.append_nil]; exact hD
  generalize hH : s.heap = H at hP ⊢
  have hS0 : va_S A s.heap H [] := by rw [← hH]; exact va_S.rf
  clear hS
  have hS := hS0
  clear hS0
  generalize hLo : ([] : List Loc) = locs at hS ⊢
  refine lv_iload_n hx hb dL_call_0 rfl (lv_at hl 1 rfl) ?_
  refine bZT_ne (tgt := 17) hx hb dL_call_1 (by decide) (by decide) ?_
  refine lv_iload_n hx hb dL_call_17 rfl (lv_at hl 1 rfl) ?_
  refine lv_iconst (v := nI 1) hx hb dL_call_18 (by decide) ?_
  refine bIT_ne (tgt := 35) hx hb dL_call_19 (by decide) (by decide) ?_
  refine lv_iload_n hx hb dL_call_35 rfl (lv_at hl 1 rfl) ?_
  refine lv_iconst (v := nI 2) hx hb dL_call_36 (by decide) ?_
  refine bIT_ne (tgt := 48) hx hb dL_call_37 (by decide) (by decide) ?_
  refine lv_iload_n hx hb dL_call_48 rfl (lv_at hl 1 rfl) ?_
  refine lv_iconst (v := nI 3) hx hb dL_call_49 (by decide) ?_
  refine bIT_ne (tgt := 64) hx hb dL_call_50 (by decide) (by decide) ?_
  refine lv_iload_n hx hb dL_call_64 rfl (lv_at hl 1 rfl) ?_
  refine lv_iconst (v := nI 4) hx hb dL_call_65 (by decide) ?_
  refine bIT_ne (tgt := 82) hx hb dL_call_66 (by decide) (by decide) ?_
  refine lv_iload_n hx hb dL_call_82 rfl (lv_at hl 1 rfl) ?_
  refine lv_iconst (v := nI 5) hx hb dL_call_83 (by decide) ?_
  refine bIT_ne (tgt := 95) hx hb dL_call_84 (by decide) (by decide) ?_
  refine lv_iload_n hx hb dL_call_95 rfl (lv_at hl 1 rfl) ?_
  refine lv_bipush (v := nI 6) hx hb dL_call_96 (by decide) ?_
  refine bIF_ne (tgt := 109) hx hb dL_call_98 (by decide) (by decide) ?_
  refine lv_aload_n hx hb dL_call_101 rfl (lv_at hl 0 rfl) ?_
  refine lv_iload_n hx hb dL_call_102 rfl (lv_at hl 2 rfl) ?_
  rcases h with ⟨rm, mc, ms, hb1, hM⟩ | ⟨E, rm, mc, ms, hb1, rfl, hE, hM⟩
  · refine lqV (own := RL) (index := 32) (bytes := cX3_setTax) (n := 1) (As := [.int a]) (rest := []) (c2 := 4) (s2 := 528) F hM hC gL_call_X3_setTax rfl rfl hb1.1 hb1.2.1 (by decide +kernel) rfl ⟨by have h9 := hb1.2.2.2.2.1; show rm.frames + 1 ≤ 9; omega, by have h9 := hb1.2.2.2.2.2; show 8 + (3 + 11) + rm.locals ≤ 230; omega⟩ hP hD hS rfl hl.1 (Nat.le_of_ble_eq_true rfl) dL_call_103 ⟨by have h9 := hb1.2.2.1; omega, by have h9 := hb1.2.2.2.1; omega⟩ ⟨Nat.le_of_ble_eq_true rfl, Nat.le_of_ble_eq_true rfl⟩ (fun u H locs hC hP hD hS => ?_)
    refine lv_goto (tgt := 227) hx hb dL_call_106 (by decide) ?_
    exact gRi F dL_call_227 rfl u ⟨rfl, hC⟩ (gPl hP) (gDl hD) hS (Nat.le_of_ble_eq_true rfl) (Nat.le_of_ble_eq_true rfl)
  · obtain ⟨fs, h0⟩ := cl_recv hC
    refine gXrun F (gRunVx (own := RL) (C := RX3) (ci := 3) (bytes := cX3_setTax) (n := 1) (As := [.int a]) (rest := []) F hZ hS (hM wv hC H.size) gL_call_X3_setTax rfl rfl hb1.1 hb1.2.1 (by decide +kernel) rfl ⟨by have h9 := hb1.2.2.2.2.1; show rm.frames + 1 ≤ 9; omega, by have h9 := hb1.2.2.2.2.2; show 8 + (3 + 11) + rm.locals ≤ 230; omega⟩ hP hD (lit := wv) (wt := []) (wc := wv) (isC := List.range wv.length) (gRange wv) (gRange_nd _) rfl h0 rfl hl.1 (Nat.le_of_ble_eq_true rfl) dL_call_103 ⟨by have h9 := hb1.2.2.1; show 0 + mc ≤ 4; omega, by have h9 := hb1.2.2.2.1; show 0 + ms ≤ 528; omega⟩) hP hD hS (lit := wv) (wt := []) (wc := wv) (isC := List.range wv.length) (wr := []) (isR := []) (gRange wv) rfl rfl (fun _ h_ => by cases h_) (fun ce q9 u H locs hp hP hD hS hce hcv hcl => ?_)
    have hP : va_P G.1 vwCl (u ++ []) H := hP
    have hD : va_D A (u ++ []) := hD
    rcases hE with ⟨rfl, rfl⟩ | ⟨rfl, rfl⟩ | ⟨rfl, rfl⟩
    · refine vx_catch (own := RL) (name := gIO) (E := gIO) F.2.2.2.2.2.1 [] ⟨0, 227, 228, 66⟩ [⟨0, 227, 234, 68⟩, ⟨0, 227, 240, 70⟩] (by rw [htb]; rfl) (fun _ h_ => by cases h_) rfl (by decide) (F.2.2.2.2.2.2.1 (.classLink RL 66 gIO) (by decide +kernel)) (va_Nw.use rfl (hKK.2.2.2.2.2.1 (gIO, gIO) (by decide +kernel))) hce hcv hcl ?_
      refine lv_astore (lv' := [(6, .ref q9), (0, .ref lq), (1, .int (nI 6)), (2, .int a), (3, .int b), (4, .int cv), (5, .int dv)]) hx hb dL_call_228 hl (by decide) rfl (fun ls hl => ?_)
      refine lv_sipush (v := zI (-2011)) hx hb dL_call_230 (by decide) ?_
      exact gRi F dL_call_233 rfl u ⟨rfl, hp⟩ (gPl hP) (gDl hD) hS (by have h9 := hb1.2.2.1; omega) (by have h9 := hb1.2.2.2.1; omega)
    · refine vx_catch (own := RL) (name := gIA) (E := gIA) F.2.2.2.2.2.1 [⟨0, 227, 228, 66⟩] ⟨0, 227, 234, 68⟩ [⟨0, 227, 240, 70⟩] (by rw [htb]; rfl) (List.forall_mem_cons.mpr ⟨Or.inr ⟨by decide, gIO, F.2.2.2.2.2.2.1 (.classLink RL 66 gIO) (by decide +kernel), hKK.2.2.2.2.2.2.1 (gIA, gIO) (by decide +kernel)⟩, fun _ h_ => by cases h_⟩) rfl (by decide) (F.2.2.2.2.2.2.1 (.classLink RL 68 gIA) (by decide +kernel)) (va_Nw.use rfl (hKK.2.2.2.2.2.1 (gIA, gIA) (by decide +kernel))) hce hcv hcl ?_
      refine lv_astore (lv' := [(6, .ref q9), (0, .ref lq), (1, .int (nI 6)), (2, .int a), (3, .int b), (4, .int cv), (5, .int dv)]) hx hb dL_call_234 hl (by decide) rfl (fun ls hl => ?_)
      refine lv_sipush (v := zI (-2012)) hx hb dL_call_236 (by decide) ?_
      exact gRi F dL_call_239 rfl u ⟨rfl, hp⟩ (gPl hP) (gDl hD) hS (by have h9 := hb1.2.2.1; omega) (by have h9 := hb1.2.2.2.1; omega)
    · refine vx_catch (own := RL) (name := gIS) (E := gIS) F.2.2.2.2.2.1 [⟨0, 227, 228, 66⟩, ⟨0, 227, 234, 68⟩] ⟨0, 227, 240, 70⟩ [] (by rw [htb]; rfl) (List.forall_mem_cons.mpr ⟨Or.inr ⟨by decide, gIO, F.2.2.2.2.2.2.1 (.classLink RL 66 gIO) (by decide +kernel), hKK.2.2.2.2.2.2.1 (gIS, gIO) (by decide +kernel)⟩, List.forall_mem_cons.mpr ⟨Or.inr ⟨by decide, gIA, F.2.2.2.2.2.2.1 (.classLink RL 68 gIA) (by decide +kernel), hKK.2.2.2.2.2.2.1 (gIS, gIA) (by decide +kernel)⟩, fun _ h_ => by cases h_⟩⟩) rfl (by decide) (F.2.2.2.2.2.2.1 (.classLink RL 70 gIS) (by decide +kernel)) (va_Nw.use rfl (hKK.2.2.2.2.2.1 (gIS, gIS) (by decide +kernel))) hce hcv hcl ?_
      refine lv_astore (lv' := [(6, .ref q9), (0, .ref lq), (1, .int (nI 6)), (2, .int a), (3, .int b), (4, .int cv), (5, .int dv)]) hx hb dL_call_240 hl (by decide) rfl (fun ls hl => ?_)
      refine lv_sipush (v := zI (-2013)) hx hb dL_call_242 (by decide) ?_
      exact gRi F dL_call_245 rfl u ⟨rfl, hp⟩ (gPl hP) (gDl hD) hS (by have h9 := hb1.2.2.1; omega) (by have h9 := hb1.2.2.2.1; omega)

set_option maxHeartbeats 4000000 in
set_option maxRecDepth 100000 in
theorem call_7 (l : Launch) (G : gG) (lq : Nat) (S S' : SpT) (a b cv dv : Int32) (r : Int) (h : DoV l G lq yX3_append wsX3_append [.int a] S r S') : LW l G lq yL_call wsL_call { frames := 9, cells := 4, slots := 528, locals := 230 } [.int (nI 7), .int a, .int b, .int cv, .int dv] S (zI r) S' 4 528 := by
  intro wv hC
  refine gMw_mk (cc := cL_call) (nL := 7) (ret := some .int) (hh := [(0, 227, 228, 66), (0, 227, 234, 68), (0, 227, 240, 70)]) (Qc := fun A => va_Qi (S := va_W) (fun r' u => r' = zI r ∧ clS G lq u S') (gB G A (fun u => u)) A) (by decide) rfl (Nat.le_of_ble_eq_true rfl) ?_
  intro p e s m args below meth c A F htb hZ ls hl hP hD hS
  have hx := F.1
  have hb := F.2.1
  have hts := F.2.2.2.2.2.2.1
  have hKK := F.2.2.2.2.2.2.2.2.1
  have hl : lv_has ls 7 [(0, .ref lq), (1, .int (nI 7)), (2, .int a), (3, .int b), (4, .int cv), (5, .int dv)] := hl
  have hP : va_P G.1 vwCl (wv ++ []) s.heap := by rw [List.append_nil]; exact hP
  have hD : va_D A (wv ++ []) := by rw [List.append_nil]; exact hD
  generalize hH : s.heap = H at hP ⊢
  have hS0 : va_S A s.heap H [] := by rw [← hH]; exact va_S.rf
  clear hS
  have hS := hS0
  clear hS0
  generalize hLo : ([] : List Loc) = locs at hS ⊢
  refine lv_iload_n hx hb dL_call_0 rfl (lv_at hl 1 rfl) ?_
  refine bZT_ne (tgt := 17) hx hb dL_call_1 (by decide) (by decide) ?_
  refine lv_iload_n hx hb dL_call_17 rfl (lv_at hl 1 rfl) ?_
  refine lv_iconst (v := nI 1) hx hb dL_call_18 (by decide) ?_
  refine bIT_ne (tgt := 35) hx hb dL_call_19 (by decide) (by decide) ?_
  refine lv_iload_n hx hb dL_call_35 rfl (lv_at hl 1 rfl) ?_
  refine lv_iconst (v := nI 2) hx hb dL_call_36 (by decide) ?_
  refine bIT_ne (tgt := 48) hx hb dL_call_37 (by decide) (by decide) ?_
  refine lv_iload_n hx hb dL_call_48 rfl (lv_at hl 1 rfl) ?_
  refine lv_iconst (v := nI 3) hx hb dL_call_49 (by decide) ?_
  refine bIT_ne (tgt := 64) hx hb dL_call_50 (by decide) (by decide) ?_
  refine lv_iload_n hx hb dL_call_64 rfl (lv_at hl 1 rfl) ?_
  refine lv_iconst (v := nI 4) hx hb dL_call_65 (by decide) ?_
  refine bIT_ne (tgt := 82) hx hb dL_call_66 (by decide) (by decide) ?_
  refine lv_iload_n hx hb dL_call_82 rfl (lv_at hl 1 rfl) ?_
  refine lv_iconst (v := nI 5) hx hb dL_call_83 (by decide) ?_
  refine bIT_ne (tgt := 95) hx hb dL_call_84 (by decide) (by decide) ?_
  refine lv_iload_n hx hb dL_call_95 rfl (lv_at hl 1 rfl) ?_
  refine lv_bipush (v := nI 6) hx hb dL_call_96 (by decide) ?_
  refine bIT_ne (tgt := 109) hx hb dL_call_98 (by decide) (by decide) ?_
  refine lv_iload_n hx hb dL_call_109 rfl (lv_at hl 1 rfl) ?_
  refine lv_bipush (v := nI 7) hx hb dL_call_110 (by decide) ?_
  refine bIF_ne (tgt := 123) hx hb dL_call_112 (by decide) (by decide) ?_
  refine lv_aload_n hx hb dL_call_115 rfl (lv_at hl 0 rfl) ?_
  refine lv_iload_n hx hb dL_call_116 rfl (lv_at hl 2 rfl) ?_
  rcases h with ⟨rm, mc, ms, hb1, hM⟩ | ⟨E, rm, mc, ms, hb1, rfl, hE, hM⟩
  · refine lqV (own := RL) (index := 35) (bytes := cX3_append) (n := 1) (As := [.int a]) (rest := []) (c2 := 4) (s2 := 528) F hM hC gL_call_X3_append rfl rfl hb1.1 hb1.2.1 (by decide +kernel) rfl ⟨by have h9 := hb1.2.2.2.2.1; show rm.frames + 1 ≤ 9; omega, by have h9 := hb1.2.2.2.2.2; show 8 + (2 + 11) + rm.locals ≤ 230; omega⟩ hP hD hS rfl hl.1 (Nat.le_of_ble_eq_true rfl) dL_call_117 ⟨by have h9 := hb1.2.2.1; omega, by have h9 := hb1.2.2.2.1; omega⟩ ⟨Nat.le_of_ble_eq_true rfl, Nat.le_of_ble_eq_true rfl⟩ (fun u H locs hC hP hD hS => ?_)
    refine lv_goto (tgt := 227) hx hb dL_call_120 (by decide) ?_
    exact gRi F dL_call_227 rfl u ⟨rfl, hC⟩ (gPl hP) (gDl hD) hS (Nat.le_of_ble_eq_true rfl) (Nat.le_of_ble_eq_true rfl)
  · obtain ⟨fs, h0⟩ := cl_recv hC
    refine gXrun F (gRunVx (own := RL) (C := RX3) (ci := 3) (bytes := cX3_append) (n := 1) (As := [.int a]) (rest := []) F hZ hS (hM wv hC H.size) gL_call_X3_append rfl rfl hb1.1 hb1.2.1 (by decide +kernel) rfl ⟨by have h9 := hb1.2.2.2.2.1; show rm.frames + 1 ≤ 9; omega, by have h9 := hb1.2.2.2.2.2; show 8 + (2 + 11) + rm.locals ≤ 230; omega⟩ hP hD (lit := wv) (wt := []) (wc := wv) (isC := List.range wv.length) (gRange wv) (gRange_nd _) rfl h0 rfl hl.1 (Nat.le_of_ble_eq_true rfl) dL_call_117 ⟨by have h9 := hb1.2.2.1; show 0 + mc ≤ 4; omega, by have h9 := hb1.2.2.2.1; show 0 + ms ≤ 528; omega⟩) hP hD hS (lit := wv) (wt := []) (wc := wv) (isC := List.range wv.length) (wr := []) (isR := []) (gRange wv) rfl rfl (fun _ h_ => by cases h_) (fun ce q9 u H locs hp hP hD hS hce hcv hcl => ?_)
    have hP : va_P G.1 vwCl (u ++ []) H := hP
    have hD : va_D A (u ++ []) := hD
    rcases hE with ⟨rfl, rfl⟩ | ⟨rfl, rfl⟩ | ⟨rfl, rfl⟩
    · refine vx_catch (own := RL) (name := gIO) (E := gIO) F.2.2.2.2.2.1 [] ⟨0, 227, 228, 66⟩ [⟨0, 227, 234, 68⟩, ⟨0, 227, 240, 70⟩] (by rw [htb]; rfl) (fun _ h_ => by cases h_) rfl (by decide) (F.2.2.2.2.2.2.1 (.classLink RL 66 gIO) (by decide +kernel)) (va_Nw.use rfl (hKK.2.2.2.2.2.1 (gIO, gIO) (by decide +kernel))) hce hcv hcl ?_
      refine lv_astore (lv' := [(6, .ref q9), (0, .ref lq), (1, .int (nI 7)), (2, .int a), (3, .int b), (4, .int cv), (5, .int dv)]) hx hb dL_call_228 hl (by decide) rfl (fun ls hl => ?_)
      refine lv_sipush (v := zI (-2011)) hx hb dL_call_230 (by decide) ?_
      exact gRi F dL_call_233 rfl u ⟨rfl, hp⟩ (gPl hP) (gDl hD) hS (by have h9 := hb1.2.2.1; omega) (by have h9 := hb1.2.2.2.1; omega)
    · refine vx_catch (own := RL) (name := gIA) (E := gIA) F.2.2.2.2.2.1 [⟨0, 227, 228, 66⟩] ⟨0, 227, 234, 68⟩ [⟨0, 227, 240, 70⟩] (by rw [htb]; rfl) (List.forall_mem_cons.mpr ⟨Or.inr ⟨by decide, gIO, F.2.2.2.2.2.2.1 (.classLink RL 66 gIO) (by decide +kernel), hKK.2.2.2.2.2.2.1 (gIA, gIO) (by decide +kernel)⟩, fun _ h_ => by cases h_⟩) rfl (by decide) (F.2.2.2.2.2.2.1 (.classLink RL 68 gIA) (by decide +kernel)) (va_Nw.use rfl (hKK.2.2.2.2.2.1 (gIA, gIA) (by decide +kernel))) hce hcv hcl ?_
      refine lv_astore (lv' := [(6, .ref q9), (0, .ref lq), (1, .int (nI 7)), (2, .int a), (3, .int b), (4, .int cv), (5, .int dv)]) hx hb dL_call_234 hl (by decide) rfl (fun ls hl => ?_)
      refine lv_sipush (v := zI (-2012)) hx hb dL_call_236 (by decide) ?_
      exact gRi F dL_call_239 rfl u ⟨rfl, hp⟩ (gPl hP) (gDl hD) hS (by have h9 := hb1.2.2.1; omega) (by have h9 := hb1.2.2.2.1; omega)
    · refine vx_catch (own := RL) (name := gIS) (E := gIS) F.2.2.2.2.2.1 [⟨0, 227, 228, 66⟩, ⟨0, 227, 234, 68⟩] ⟨0, 227, 240, 70⟩ [] (by rw [htb]; rfl) (List.forall_mem_cons.mpr ⟨Or.inr ⟨by decide, gIO, F.2.2.2.2.2.2.1 (.classLink RL 66 gIO) (by decide +kernel), hKK.2.2.2.2.2.2.1 (gIS, gIO) (by decide +kernel)⟩, List.forall_mem_cons.mpr ⟨Or.inr ⟨by decide, gIA, F.2.2.2.2.2.2.1 (.classLink RL 68 gIA) (by decide +kernel), hKK.2.2.2.2.2.2.1 (gIS, gIA) (by decide +kernel)⟩, fun _ h_ => by cases h_⟩⟩) rfl (by decide) (F.2.2.2.2.2.2.1 (.classLink RL 70 gIS) (by decide +kernel)) (va_Nw.use rfl (hKK.2.2.2.2.2.1 (gIS, gIS) (by decide +kernel))) hce hcv hcl ?_
      refine lv_astore (lv' := [(6, .ref q9), (0, .ref lq), (1, .int (nI 7)), (2, .int a), (3, .int b), (4, .int cv), (5, .int dv)]) hx hb dL_call_240 hl (by decide) rfl (fun ls hl => ?_)
      refine lv_sipush (v := zI (-2013)) hx hb dL_call_242 (by decide) ?_
      exact gRi F dL_call_245 rfl u ⟨rfl, hp⟩ (gPl hP) (gDl hD) hS (by have h9 := hb1.2.2.1; omega) (by have h9 := hb1.2.2.2.1; omega)

set_option maxHeartbeats 4000000 in
set_option maxRecDepth 100000 in
theorem call_8 (l : Launch) (G : gG) (lq : Nat) (S S' : SpT) (a b cv dv : Int32) (r : Int) (h : DoV l G lq yX3_carryOut wsX3_carryOut [] S r S') : LW l G lq yL_call wsL_call { frames := 9, cells := 4, slots := 528, locals := 230 } [.int (nI 8), .int a, .int b, .int cv, .int dv] S (zI r) S' 4 528 := by
  intro wv hC
  refine gMw_mk (cc := cL_call) (nL := 7) (ret := some .int) (hh := [(0, 227, 228, 66), (0, 227, 234, 68), (0, 227, 240, 70)]) (Qc := fun A => va_Qi (S := va_W) (fun r' u => r' = zI r ∧ clS G lq u S') (gB G A (fun u => u)) A) (by decide) rfl (Nat.le_of_ble_eq_true rfl) ?_
  intro p e s m args below meth c A F htb hZ ls hl hP hD hS
  have hx := F.1
  have hb := F.2.1
  have hts := F.2.2.2.2.2.2.1
  have hKK := F.2.2.2.2.2.2.2.2.1
  have hl : lv_has ls 7 [(0, .ref lq), (1, .int (nI 8)), (2, .int a), (3, .int b), (4, .int cv), (5, .int dv)] := hl
  have hP : va_P G.1 vwCl (wv ++ []) s.heap := by rw [List.append_nil]; exact hP
  have hD : va_D A (wv ++ []) := by rw [List.append_nil]; exact hD
  generalize hH : s.heap = H at hP ⊢
  have hS0 : va_S A s.heap H [] := by rw [← hH]; exact va_S.rf
  clear hS
  have hS := hS0
  clear hS0
  generalize hLo : ([] : List Loc) = locs at hS ⊢
  refine lv_iload_n hx hb dL_call_0 rfl (lv_at hl 1 rfl) ?_
  refine bZT_ne (tgt := 17) hx hb dL_call_1 (by decide) (by decide) ?_
  refine lv_iload_n hx hb dL_call_17 rfl (lv_at hl 1 rfl) ?_
  refine lv_iconst (v := nI 1) hx hb dL_call_18 (by decide) ?_
  refine bIT_ne (tgt := 35) hx hb dL_call_19 (by decide) (by decide) ?_
  refine lv_iload_n hx hb dL_call_35 rfl (lv_at hl 1 rfl) ?_
  refine lv_iconst (v := nI 2) hx hb dL_call_36 (by decide) ?_
  refine bIT_ne (tgt := 48) hx hb dL_call_37 (by decide) (by decide) ?_
  refine lv_iload_n hx hb dL_call_48 rfl (lv_at hl 1 rfl) ?_
  refine lv_iconst (v := nI 3) hx hb dL_call_49 (by decide) ?_
  refine bIT_ne (tgt := 64) hx hb dL_call_50 (by decide) (by decide) ?_
  refine lv_iload_n hx hb dL_call_64 rfl (lv_at hl 1 rfl) ?_
  refine lv_iconst (v := nI 4) hx hb dL_call_65 (by decide) ?_
  refine bIT_ne (tgt := 82) hx hb dL_call_66 (by decide) (by decide) ?_
  refine lv_iload_n hx hb dL_call_82 rfl (lv_at hl 1 rfl) ?_
  refine lv_iconst (v := nI 5) hx hb dL_call_83 (by decide) ?_
  refine bIT_ne (tgt := 95) hx hb dL_call_84 (by decide) (by decide) ?_
  refine lv_iload_n hx hb dL_call_95 rfl (lv_at hl 1 rfl) ?_
  refine lv_bipush (v := nI 6) hx hb dL_call_96 (by decide) ?_
  refine bIT_ne (tgt := 109) hx hb dL_call_98 (by decide) (by decide) ?_
  refine lv_iload_n hx hb dL_call_109 rfl (lv_at hl 1 rfl) ?_
  refine lv_bipush (v := nI 7) hx hb dL_call_110 (by decide) ?_
  refine bIT_ne (tgt := 123) hx hb dL_call_112 (by decide) (by decide) ?_
  refine lv_iload_n hx hb dL_call_123 rfl (lv_at hl 1 rfl) ?_
  refine lv_bipush (v := nI 8) hx hb dL_call_124 (by decide) ?_
  refine bIF_ne (tgt := 136) hx hb dL_call_126 (by decide) (by decide) ?_
  refine lv_aload_n hx hb dL_call_129 rfl (lv_at hl 0 rfl) ?_
  rcases h with ⟨rm, mc, ms, hb1, hM⟩ | ⟨E, rm, mc, ms, hb1, rfl, hE, hM⟩
  · refine lqV (own := RL) (index := 38) (bytes := cX3_carryOut) (n := 0) (As := []) (rest := []) (c2 := 4) (s2 := 528) F hM hC gL_call_X3_carryOut rfl rfl hb1.1 hb1.2.1 (by decide +kernel) rfl ⟨by have h9 := hb1.2.2.2.2.1; show rm.frames + 1 ≤ 9; omega, by have h9 := hb1.2.2.2.2.2; show 8 + (2 + 11) + rm.locals ≤ 230; omega⟩ hP hD hS rfl hl.1 (Nat.le_of_ble_eq_true rfl) dL_call_130 ⟨by have h9 := hb1.2.2.1; omega, by have h9 := hb1.2.2.2.1; omega⟩ ⟨Nat.le_of_ble_eq_true rfl, Nat.le_of_ble_eq_true rfl⟩ (fun u H locs hC hP hD hS => ?_)
    refine lv_goto (tgt := 227) hx hb dL_call_133 (by decide) ?_
    exact gRi F dL_call_227 rfl u ⟨rfl, hC⟩ (gPl hP) (gDl hD) hS (Nat.le_of_ble_eq_true rfl) (Nat.le_of_ble_eq_true rfl)
  · obtain ⟨fs, h0⟩ := cl_recv hC
    refine gXrun F (gRunVx (own := RL) (C := RX3) (ci := 3) (bytes := cX3_carryOut) (n := 0) (As := []) (rest := []) F hZ hS (hM wv hC H.size) gL_call_X3_carryOut rfl rfl hb1.1 hb1.2.1 (by decide +kernel) rfl ⟨by have h9 := hb1.2.2.2.2.1; show rm.frames + 1 ≤ 9; omega, by have h9 := hb1.2.2.2.2.2; show 8 + (2 + 11) + rm.locals ≤ 230; omega⟩ hP hD (lit := wv) (wt := []) (wc := wv) (isC := List.range wv.length) (gRange wv) (gRange_nd _) rfl h0 rfl hl.1 (Nat.le_of_ble_eq_true rfl) dL_call_130 ⟨by have h9 := hb1.2.2.1; show 0 + mc ≤ 4; omega, by have h9 := hb1.2.2.2.1; show 0 + ms ≤ 528; omega⟩) hP hD hS (lit := wv) (wt := []) (wc := wv) (isC := List.range wv.length) (wr := []) (isR := []) (gRange wv) rfl rfl (fun _ h_ => by cases h_) (fun ce q9 u H locs hp hP hD hS hce hcv hcl => ?_)
    have hP : va_P G.1 vwCl (u ++ []) H := hP
    have hD : va_D A (u ++ []) := hD
    rcases hE with ⟨rfl, rfl⟩ | ⟨rfl, rfl⟩ | ⟨rfl, rfl⟩
    · refine vx_catch (own := RL) (name := gIO) (E := gIO) F.2.2.2.2.2.1 [] ⟨0, 227, 228, 66⟩ [⟨0, 227, 234, 68⟩, ⟨0, 227, 240, 70⟩] (by rw [htb]; rfl) (fun _ h_ => by cases h_) rfl (by decide) (F.2.2.2.2.2.2.1 (.classLink RL 66 gIO) (by decide +kernel)) (va_Nw.use rfl (hKK.2.2.2.2.2.1 (gIO, gIO) (by decide +kernel))) hce hcv hcl ?_
      refine lv_astore (lv' := [(6, .ref q9), (0, .ref lq), (1, .int (nI 8)), (2, .int a), (3, .int b), (4, .int cv), (5, .int dv)]) hx hb dL_call_228 hl (by decide) rfl (fun ls hl => ?_)
      refine lv_sipush (v := zI (-2011)) hx hb dL_call_230 (by decide) ?_
      exact gRi F dL_call_233 rfl u ⟨rfl, hp⟩ (gPl hP) (gDl hD) hS (by have h9 := hb1.2.2.1; omega) (by have h9 := hb1.2.2.2.1; omega)
    · refine vx_catch (own := RL) (name := gIA) (E := gIA) F.2.2.2.2.2.1 [⟨0, 227, 228, 66⟩] ⟨0, 227, 234, 68⟩ [⟨0, 227, 240, 70⟩] (by rw [htb]; rfl) (List.forall_mem_cons.mpr ⟨Or.inr ⟨by decide, gIO, F.2.2.2.2.2.2.1 (.classLink RL 66 gIO) (by decide +kernel), hKK.2.2.2.2.2.2.1 (gIA, gIO) (by decide +kernel)⟩, fun _ h_ => by cases h_⟩) rfl (by decide) (F.2.2.2.2.2.2.1 (.classLink RL 68 gIA) (by decide +kernel)) (va_Nw.use rfl (hKK.2.2.2.2.2.1 (gIA, gIA) (by decide +kernel))) hce hcv hcl ?_
      refine lv_astore (lv' := [(6, .ref q9), (0, .ref lq), (1, .int (nI 8)), (2, .int a), (3, .int b), (4, .int cv), (5, .int dv)]) hx hb dL_call_234 hl (by decide) rfl (fun ls hl => ?_)
      refine lv_sipush (v := zI (-2012)) hx hb dL_call_236 (by decide) ?_
      exact gRi F dL_call_239 rfl u ⟨rfl, hp⟩ (gPl hP) (gDl hD) hS (by have h9 := hb1.2.2.1; omega) (by have h9 := hb1.2.2.2.1; omega)
    · refine vx_catch (own := RL) (name := gIS) (E := gIS) F.2.2.2.2.2.1 [⟨0, 227, 228, 66⟩, ⟨0, 227, 234, 68⟩] ⟨0, 227, 240, 70⟩ [] (by rw [htb]; rfl) (List.forall_mem_cons.mpr ⟨Or.inr ⟨by decide, gIO, F.2.2.2.2.2.2.1 (.classLink RL 66 gIO) (by decide +kernel), hKK.2.2.2.2.2.2.1 (gIS, gIO) (by decide +kernel)⟩, List.forall_mem_cons.mpr ⟨Or.inr ⟨by decide, gIA, F.2.2.2.2.2.2.1 (.classLink RL 68 gIA) (by decide +kernel), hKK.2.2.2.2.2.2.1 (gIS, gIA) (by decide +kernel)⟩, fun _ h_ => by cases h_⟩⟩) rfl (by decide) (F.2.2.2.2.2.2.1 (.classLink RL 70 gIS) (by decide +kernel)) (va_Nw.use rfl (hKK.2.2.2.2.2.1 (gIS, gIS) (by decide +kernel))) hce hcv hcl ?_
      refine lv_astore (lv' := [(6, .ref q9), (0, .ref lq), (1, .int (nI 8)), (2, .int a), (3, .int b), (4, .int cv), (5, .int dv)]) hx hb dL_call_240 hl (by decide) rfl (fun ls hl => ?_)
      refine lv_sipush (v := zI (-2013)) hx hb dL_call_242 (by decide) ?_
      exact gRi F dL_call_245 rfl u ⟨rfl, hp⟩ (gPl hP) (gDl hD) hS (by have h9 := hb1.2.2.1; omega) (by have h9 := hb1.2.2.2.1; omega)

set_option maxHeartbeats 4000000 in
set_option maxRecDepth 100000 in
theorem call_9 (l : Launch) (G : gG) (lq : Nat) (S S' : SpT) (a b cv dv : Int32) (r : Int) (h : DoV l G lq yX3_undo wsX3_undo [] S r S') : LW l G lq yL_call wsL_call { frames := 9, cells := 4, slots := 528, locals := 230 } [.int (nI 9), .int a, .int b, .int cv, .int dv] S (zI r) S' 4 528 := by
  intro wv hC
  refine gMw_mk (cc := cL_call) (nL := 7) (ret := some .int) (hh := [(0, 227, 228, 66), (0, 227, 234, 68), (0, 227, 240, 70)]) (Qc := fun A => va_Qi (S := va_W) (fun r' u => r' = zI r ∧ clS G lq u S') (gB G A (fun u => u)) A) (by decide) rfl (Nat.le_of_ble_eq_true rfl) ?_
  intro p e s m args below meth c A F htb hZ ls hl hP hD hS
  have hx := F.1
  have hb := F.2.1
  have hts := F.2.2.2.2.2.2.1
  have hKK := F.2.2.2.2.2.2.2.2.1
  have hl : lv_has ls 7 [(0, .ref lq), (1, .int (nI 9)), (2, .int a), (3, .int b), (4, .int cv), (5, .int dv)] := hl
  have hP : va_P G.1 vwCl (wv ++ []) s.heap := by rw [List.append_nil]; exact hP
  have hD : va_D A (wv ++ []) := by rw [List.append_nil]; exact hD
  generalize hH : s.heap = H at hP ⊢
  have hS0 : va_S A s.heap H [] := by rw [← hH]; exact va_S.rf
  clear hS
  have hS := hS0
  clear hS0
  generalize hLo : ([] : List Loc) = locs at hS ⊢
  refine lv_iload_n hx hb dL_call_0 rfl (lv_at hl 1 rfl) ?_
  refine bZT_ne (tgt := 17) hx hb dL_call_1 (by decide) (by decide) ?_
  refine lv_iload_n hx hb dL_call_17 rfl (lv_at hl 1 rfl) ?_
  refine lv_iconst (v := nI 1) hx hb dL_call_18 (by decide) ?_
  refine bIT_ne (tgt := 35) hx hb dL_call_19 (by decide) (by decide) ?_
  refine lv_iload_n hx hb dL_call_35 rfl (lv_at hl 1 rfl) ?_
  refine lv_iconst (v := nI 2) hx hb dL_call_36 (by decide) ?_
  refine bIT_ne (tgt := 48) hx hb dL_call_37 (by decide) (by decide) ?_
  refine lv_iload_n hx hb dL_call_48 rfl (lv_at hl 1 rfl) ?_
  refine lv_iconst (v := nI 3) hx hb dL_call_49 (by decide) ?_
  refine bIT_ne (tgt := 64) hx hb dL_call_50 (by decide) (by decide) ?_
  refine lv_iload_n hx hb dL_call_64 rfl (lv_at hl 1 rfl) ?_
  refine lv_iconst (v := nI 4) hx hb dL_call_65 (by decide) ?_
  refine bIT_ne (tgt := 82) hx hb dL_call_66 (by decide) (by decide) ?_
  refine lv_iload_n hx hb dL_call_82 rfl (lv_at hl 1 rfl) ?_
  refine lv_iconst (v := nI 5) hx hb dL_call_83 (by decide) ?_
  refine bIT_ne (tgt := 95) hx hb dL_call_84 (by decide) (by decide) ?_
  refine lv_iload_n hx hb dL_call_95 rfl (lv_at hl 1 rfl) ?_
  refine lv_bipush (v := nI 6) hx hb dL_call_96 (by decide) ?_
  refine bIT_ne (tgt := 109) hx hb dL_call_98 (by decide) (by decide) ?_
  refine lv_iload_n hx hb dL_call_109 rfl (lv_at hl 1 rfl) ?_
  refine lv_bipush (v := nI 7) hx hb dL_call_110 (by decide) ?_
  refine bIT_ne (tgt := 123) hx hb dL_call_112 (by decide) (by decide) ?_
  refine lv_iload_n hx hb dL_call_123 rfl (lv_at hl 1 rfl) ?_
  refine lv_bipush (v := nI 8) hx hb dL_call_124 (by decide) ?_
  refine bIT_ne (tgt := 136) hx hb dL_call_126 (by decide) (by decide) ?_
  refine lv_iload_n hx hb dL_call_136 rfl (lv_at hl 1 rfl) ?_
  refine lv_bipush (v := nI 9) hx hb dL_call_137 (by decide) ?_
  refine bIF_ne (tgt := 149) hx hb dL_call_139 (by decide) (by decide) ?_
  refine lv_aload_n hx hb dL_call_142 rfl (lv_at hl 0 rfl) ?_
  rcases h with ⟨rm, mc, ms, hb1, hM⟩ | ⟨E, rm, mc, ms, hb1, rfl, hE, hM⟩
  · refine lqV (own := RL) (index := 42) (bytes := cX3_undo) (n := 0) (As := []) (rest := []) (c2 := 4) (s2 := 528) F hM hC gL_call_X3_undo rfl rfl hb1.1 hb1.2.1 (by decide +kernel) rfl ⟨by have h9 := hb1.2.2.2.2.1; show rm.frames + 1 ≤ 9; omega, by have h9 := hb1.2.2.2.2.2; show 8 + (2 + 11) + rm.locals ≤ 230; omega⟩ hP hD hS rfl hl.1 (Nat.le_of_ble_eq_true rfl) dL_call_143 ⟨by have h9 := hb1.2.2.1; omega, by have h9 := hb1.2.2.2.1; omega⟩ ⟨Nat.le_of_ble_eq_true rfl, Nat.le_of_ble_eq_true rfl⟩ (fun u H locs hC hP hD hS => ?_)
    refine lv_goto (tgt := 227) hx hb dL_call_146 (by decide) ?_
    exact gRi F dL_call_227 rfl u ⟨rfl, hC⟩ (gPl hP) (gDl hD) hS (Nat.le_of_ble_eq_true rfl) (Nat.le_of_ble_eq_true rfl)
  · obtain ⟨fs, h0⟩ := cl_recv hC
    refine gXrun F (gRunVx (own := RL) (C := RX3) (ci := 3) (bytes := cX3_undo) (n := 0) (As := []) (rest := []) F hZ hS (hM wv hC H.size) gL_call_X3_undo rfl rfl hb1.1 hb1.2.1 (by decide +kernel) rfl ⟨by have h9 := hb1.2.2.2.2.1; show rm.frames + 1 ≤ 9; omega, by have h9 := hb1.2.2.2.2.2; show 8 + (2 + 11) + rm.locals ≤ 230; omega⟩ hP hD (lit := wv) (wt := []) (wc := wv) (isC := List.range wv.length) (gRange wv) (gRange_nd _) rfl h0 rfl hl.1 (Nat.le_of_ble_eq_true rfl) dL_call_143 ⟨by have h9 := hb1.2.2.1; show 0 + mc ≤ 4; omega, by have h9 := hb1.2.2.2.1; show 0 + ms ≤ 528; omega⟩) hP hD hS (lit := wv) (wt := []) (wc := wv) (isC := List.range wv.length) (wr := []) (isR := []) (gRange wv) rfl rfl (fun _ h_ => by cases h_) (fun ce q9 u H locs hp hP hD hS hce hcv hcl => ?_)
    have hP : va_P G.1 vwCl (u ++ []) H := hP
    have hD : va_D A (u ++ []) := hD
    rcases hE with ⟨rfl, rfl⟩ | ⟨rfl, rfl⟩ | ⟨rfl, rfl⟩
    · refine vx_catch (own := RL) (name := gIO) (E := gIO) F.2.2.2.2.2.1 [] ⟨0, 227, 228, 66⟩ [⟨0, 227, 234, 68⟩, ⟨0, 227, 240, 70⟩] (by rw [htb]; rfl) (fun _ h_ => by cases h_) rfl (by decide) (F.2.2.2.2.2.2.1 (.classLink RL 66 gIO) (by decide +kernel)) (va_Nw.use rfl (hKK.2.2.2.2.2.1 (gIO, gIO) (by decide +kernel))) hce hcv hcl ?_
      refine lv_astore (lv' := [(6, .ref q9), (0, .ref lq), (1, .int (nI 9)), (2, .int a), (3, .int b), (4, .int cv), (5, .int dv)]) hx hb dL_call_228 hl (by decide) rfl (fun ls hl => ?_)
      refine lv_sipush (v := zI (-2011)) hx hb dL_call_230 (by decide) ?_
      exact gRi F dL_call_233 rfl u ⟨rfl, hp⟩ (gPl hP) (gDl hD) hS (by have h9 := hb1.2.2.1; omega) (by have h9 := hb1.2.2.2.1; omega)
    · refine vx_catch (own := RL) (name := gIA) (E := gIA) F.2.2.2.2.2.1 [⟨0, 227, 228, 66⟩] ⟨0, 227, 234, 68⟩ [⟨0, 227, 240, 70⟩] (by rw [htb]; rfl) (List.forall_mem_cons.mpr ⟨Or.inr ⟨by decide, gIO, F.2.2.2.2.2.2.1 (.classLink RL 66 gIO) (by decide +kernel), hKK.2.2.2.2.2.2.1 (gIA, gIO) (by decide +kernel)⟩, fun _ h_ => by cases h_⟩) rfl (by decide) (F.2.2.2.2.2.2.1 (.classLink RL 68 gIA) (by decide +kernel)) (va_Nw.use rfl (hKK.2.2.2.2.2.1 (gIA, gIA) (by decide +kernel))) hce hcv hcl ?_
      refine lv_astore (lv' := [(6, .ref q9), (0, .ref lq), (1, .int (nI 9)), (2, .int a), (3, .int b), (4, .int cv), (5, .int dv)]) hx hb dL_call_234 hl (by decide) rfl (fun ls hl => ?_)
      refine lv_sipush (v := zI (-2012)) hx hb dL_call_236 (by decide) ?_
      exact gRi F dL_call_239 rfl u ⟨rfl, hp⟩ (gPl hP) (gDl hD) hS (by have h9 := hb1.2.2.1; omega) (by have h9 := hb1.2.2.2.1; omega)
    · refine vx_catch (own := RL) (name := gIS) (E := gIS) F.2.2.2.2.2.1 [⟨0, 227, 228, 66⟩, ⟨0, 227, 234, 68⟩] ⟨0, 227, 240, 70⟩ [] (by rw [htb]; rfl) (List.forall_mem_cons.mpr ⟨Or.inr ⟨by decide, gIO, F.2.2.2.2.2.2.1 (.classLink RL 66 gIO) (by decide +kernel), hKK.2.2.2.2.2.2.1 (gIS, gIO) (by decide +kernel)⟩, List.forall_mem_cons.mpr ⟨Or.inr ⟨by decide, gIA, F.2.2.2.2.2.2.1 (.classLink RL 68 gIA) (by decide +kernel), hKK.2.2.2.2.2.2.1 (gIS, gIA) (by decide +kernel)⟩, fun _ h_ => by cases h_⟩⟩) rfl (by decide) (F.2.2.2.2.2.2.1 (.classLink RL 70 gIS) (by decide +kernel)) (va_Nw.use rfl (hKK.2.2.2.2.2.1 (gIS, gIS) (by decide +kernel))) hce hcv hcl ?_
      refine lv_astore (lv' := [(6, .ref q9), (0, .ref lq), (1, .int (nI 9)), (2, .int a), (3, .int b), (4, .int cv), (5, .int dv)]) hx hb dL_call_240 hl (by decide) rfl (fun ls hl => ?_)
      refine lv_sipush (v := zI (-2013)) hx hb dL_call_242 (by decide) ?_
      exact gRi F dL_call_245 rfl u ⟨rfl, hp⟩ (gPl hP) (gDl hD) hS (by have h9 := hb1.2.2.1; omega) (by have h9 := hb1.2.2.2.1; omega)

set_option maxHeartbeats 4000000 in
set_option maxRecDepth 100000 in
theorem call_10 (l : Launch) (G : gG) (lq : Nat) (S S' : SpT) (a b cv dv : Int32) (r : Int) (h : DoV l G lq yX3_keep wsX3_keep [.int a] S r S') : LW l G lq yL_call wsL_call { frames := 9, cells := 4, slots := 528, locals := 230 } [.int (nI 10), .int a, .int b, .int cv, .int dv] S (zI r) S' 4 528 := by
  intro wv hC
  refine gMw_mk (cc := cL_call) (nL := 7) (ret := some .int) (hh := [(0, 227, 228, 66), (0, 227, 234, 68), (0, 227, 240, 70)]) (Qc := fun A => va_Qi (S := va_W) (fun r' u => r' = zI r ∧ clS G lq u S') (gB G A (fun u => u)) A) (by decide) rfl (Nat.le_of_ble_eq_true rfl) ?_
  intro p e s m args below meth c A F htb hZ ls hl hP hD hS
  have hx := F.1
  have hb := F.2.1
  have hts := F.2.2.2.2.2.2.1
  have hKK := F.2.2.2.2.2.2.2.2.1
  have hl : lv_has ls 7 [(0, .ref lq), (1, .int (nI 10)), (2, .int a), (3, .int b), (4, .int cv), (5, .int dv)] := hl
  have hP : va_P G.1 vwCl (wv ++ []) s.heap := by rw [List.append_nil]; exact hP
  have hD : va_D A (wv ++ []) := by rw [List.append_nil]; exact hD
  generalize hH : s.heap = H at hP ⊢
  have hS0 : va_S A s.heap H [] := by rw [← hH]; exact va_S.rf
  clear hS
  have hS := hS0
  clear hS0
  generalize hLo : ([] : List Loc) = locs at hS ⊢
  refine lv_iload_n hx hb dL_call_0 rfl (lv_at hl 1 rfl) ?_
  refine bZT_ne (tgt := 17) hx hb dL_call_1 (by decide) (by decide) ?_
  refine lv_iload_n hx hb dL_call_17 rfl (lv_at hl 1 rfl) ?_
  refine lv_iconst (v := nI 1) hx hb dL_call_18 (by decide) ?_
  refine bIT_ne (tgt := 35) hx hb dL_call_19 (by decide) (by decide) ?_
  refine lv_iload_n hx hb dL_call_35 rfl (lv_at hl 1 rfl) ?_
  refine lv_iconst (v := nI 2) hx hb dL_call_36 (by decide) ?_
  refine bIT_ne (tgt := 48) hx hb dL_call_37 (by decide) (by decide) ?_
  refine lv_iload_n hx hb dL_call_48 rfl (lv_at hl 1 rfl) ?_
  refine lv_iconst (v := nI 3) hx hb dL_call_49 (by decide) ?_
  refine bIT_ne (tgt := 64) hx hb dL_call_50 (by decide) (by decide) ?_
  refine lv_iload_n hx hb dL_call_64 rfl (lv_at hl 1 rfl) ?_
  refine lv_iconst (v := nI 4) hx hb dL_call_65 (by decide) ?_
  refine bIT_ne (tgt := 82) hx hb dL_call_66 (by decide) (by decide) ?_
  refine lv_iload_n hx hb dL_call_82 rfl (lv_at hl 1 rfl) ?_
  refine lv_iconst (v := nI 5) hx hb dL_call_83 (by decide) ?_
  refine bIT_ne (tgt := 95) hx hb dL_call_84 (by decide) (by decide) ?_
  refine lv_iload_n hx hb dL_call_95 rfl (lv_at hl 1 rfl) ?_
  refine lv_bipush (v := nI 6) hx hb dL_call_96 (by decide) ?_
  refine bIT_ne (tgt := 109) hx hb dL_call_98 (by decide) (by decide) ?_
  refine lv_iload_n hx hb dL_call_109 rfl (lv_at hl 1 rfl) ?_
  refine lv_bipush (v := nI 7) hx hb dL_call_110 (by decide) ?_
  refine bIT_ne (tgt := 123) hx hb dL_call_112 (by decide) (by decide) ?_
  refine lv_iload_n hx hb dL_call_123 rfl (lv_at hl 1 rfl) ?_
  refine lv_bipush (v := nI 8) hx hb dL_call_124 (by decide) ?_
  refine bIT_ne (tgt := 136) hx hb dL_call_126 (by decide) (by decide) ?_
  refine lv_iload_n hx hb dL_call_136 rfl (lv_at hl 1 rfl) ?_
  refine lv_bipush (v := nI 9) hx hb dL_call_137 (by decide) ?_
  refine bIT_ne (tgt := 149) hx hb dL_call_139 (by decide) (by decide) ?_
  refine lv_iload_n hx hb dL_call_149 rfl (lv_at hl 1 rfl) ?_
  refine lv_bipush (v := nI 10) hx hb dL_call_150 (by decide) ?_
  refine bIF_ne (tgt := 163) hx hb dL_call_152 (by decide) (by decide) ?_
  refine lv_aload_n hx hb dL_call_155 rfl (lv_at hl 0 rfl) ?_
  refine lv_iload_n hx hb dL_call_156 rfl (lv_at hl 2 rfl) ?_
  rcases h with ⟨rm, mc, ms, hb1, hM⟩ | ⟨E, rm, mc, ms, hb1, rfl, hE, hM⟩
  · refine lqV (own := RL) (index := 45) (bytes := cX3_keep) (n := 1) (As := [.int a]) (rest := []) (c2 := 4) (s2 := 528) F hM hC gL_call_X3_keep rfl rfl hb1.1 hb1.2.1 (by decide +kernel) rfl ⟨by have h9 := hb1.2.2.2.2.1; show rm.frames + 1 ≤ 9; omega, by have h9 := hb1.2.2.2.2.2; show 8 + (2 + 11) + rm.locals ≤ 230; omega⟩ hP hD hS rfl hl.1 (Nat.le_of_ble_eq_true rfl) dL_call_157 ⟨by have h9 := hb1.2.2.1; omega, by have h9 := hb1.2.2.2.1; omega⟩ ⟨Nat.le_of_ble_eq_true rfl, Nat.le_of_ble_eq_true rfl⟩ (fun u H locs hC hP hD hS => ?_)
    refine lv_goto (tgt := 227) hx hb dL_call_160 (by decide) ?_
    exact gRi F dL_call_227 rfl u ⟨rfl, hC⟩ (gPl hP) (gDl hD) hS (Nat.le_of_ble_eq_true rfl) (Nat.le_of_ble_eq_true rfl)
  · obtain ⟨fs, h0⟩ := cl_recv hC
    refine gXrun F (gRunVx (own := RL) (C := RX3) (ci := 3) (bytes := cX3_keep) (n := 1) (As := [.int a]) (rest := []) F hZ hS (hM wv hC H.size) gL_call_X3_keep rfl rfl hb1.1 hb1.2.1 (by decide +kernel) rfl ⟨by have h9 := hb1.2.2.2.2.1; show rm.frames + 1 ≤ 9; omega, by have h9 := hb1.2.2.2.2.2; show 8 + (2 + 11) + rm.locals ≤ 230; omega⟩ hP hD (lit := wv) (wt := []) (wc := wv) (isC := List.range wv.length) (gRange wv) (gRange_nd _) rfl h0 rfl hl.1 (Nat.le_of_ble_eq_true rfl) dL_call_157 ⟨by have h9 := hb1.2.2.1; show 0 + mc ≤ 4; omega, by have h9 := hb1.2.2.2.1; show 0 + ms ≤ 528; omega⟩) hP hD hS (lit := wv) (wt := []) (wc := wv) (isC := List.range wv.length) (wr := []) (isR := []) (gRange wv) rfl rfl (fun _ h_ => by cases h_) (fun ce q9 u H locs hp hP hD hS hce hcv hcl => ?_)
    have hP : va_P G.1 vwCl (u ++ []) H := hP
    have hD : va_D A (u ++ []) := hD
    rcases hE with ⟨rfl, rfl⟩ | ⟨rfl, rfl⟩ | ⟨rfl, rfl⟩
    · refine vx_catch (own := RL) (name := gIO) (E := gIO) F.2.2.2.2.2.1 [] ⟨0, 227, 228, 66⟩ [⟨0, 227, 234, 68⟩, ⟨0, 227, 240, 70⟩] (by rw [htb]; rfl) (fun _ h_ => by cases h_) rfl (by decide) (F.2.2.2.2.2.2.1 (.classLink RL 66 gIO) (by decide +kernel)) (va_Nw.use rfl (hKK.2.2.2.2.2.1 (gIO, gIO) (by decide +kernel))) hce hcv hcl ?_
      refine lv_astore (lv' := [(6, .ref q9), (0, .ref lq), (1, .int (nI 10)), (2, .int a), (3, .int b), (4, .int cv), (5, .int dv)]) hx hb dL_call_228 hl (by decide) rfl (fun ls hl => ?_)
      refine lv_sipush (v := zI (-2011)) hx hb dL_call_230 (by decide) ?_
      exact gRi F dL_call_233 rfl u ⟨rfl, hp⟩ (gPl hP) (gDl hD) hS (by have h9 := hb1.2.2.1; omega) (by have h9 := hb1.2.2.2.1; omega)
    · refine vx_catch (own := RL) (name := gIA) (E := gIA) F.2.2.2.2.2.1 [⟨0, 227, 228, 66⟩] ⟨0, 227, 234, 68⟩ [⟨0, 227, 240, 70⟩] (by rw [htb]; rfl) (List.forall_mem_cons.mpr ⟨Or.inr ⟨by decide, gIO, F.2.2.2.2.2.2.1 (.classLink RL 66 gIO) (by decide +kernel), hKK.2.2.2.2.2.2.1 (gIA, gIO) (by decide +kernel)⟩, fun _ h_ => by cases h_⟩) rfl (by decide) (F.2.2.2.2.2.2.1 (.classLink RL 68 gIA) (by decide +kernel)) (va_Nw.use rfl (hKK.2.2.2.2.2.1 (gIA, gIA) (by decide +kernel))) hce hcv hcl ?_
      refine lv_astore (lv' := [(6, .ref q9), (0, .ref lq), (1, .int (nI 10)), (2, .int a), (3, .int b), (4, .int cv), (5, .int dv)]) hx hb dL_call_234 hl (by decide) rfl (fun ls hl => ?_)
      refine lv_sipush (v := zI (-2012)) hx hb dL_call_236 (by decide) ?_
      exact gRi F dL_call_239 rfl u ⟨rfl, hp⟩ (gPl hP) (gDl hD) hS (by have h9 := hb1.2.2.1; omega) (by have h9 := hb1.2.2.2.1; omega)
    · refine vx_catch (own := RL) (name := gIS) (E := gIS) F.2.2.2.2.2.1 [⟨0, 227, 228, 66⟩, ⟨0, 227, 234, 68⟩] ⟨0, 227, 240, 70⟩ [] (by rw [htb]; rfl) (List.forall_mem_cons.mpr ⟨Or.inr ⟨by decide, gIO, F.2.2.2.2.2.2.1 (.classLink RL 66 gIO) (by decide +kernel), hKK.2.2.2.2.2.2.1 (gIS, gIO) (by decide +kernel)⟩, List.forall_mem_cons.mpr ⟨Or.inr ⟨by decide, gIA, F.2.2.2.2.2.2.1 (.classLink RL 68 gIA) (by decide +kernel), hKK.2.2.2.2.2.2.1 (gIS, gIA) (by decide +kernel)⟩, fun _ h_ => by cases h_⟩⟩) rfl (by decide) (F.2.2.2.2.2.2.1 (.classLink RL 70 gIS) (by decide +kernel)) (va_Nw.use rfl (hKK.2.2.2.2.2.1 (gIS, gIS) (by decide +kernel))) hce hcv hcl ?_
      refine lv_astore (lv' := [(6, .ref q9), (0, .ref lq), (1, .int (nI 10)), (2, .int a), (3, .int b), (4, .int cv), (5, .int dv)]) hx hb dL_call_240 hl (by decide) rfl (fun ls hl => ?_)
      refine lv_sipush (v := zI (-2013)) hx hb dL_call_242 (by decide) ?_
      exact gRi F dL_call_245 rfl u ⟨rfl, hp⟩ (gPl hP) (gDl hD) hS (by have h9 := hb1.2.2.1; omega) (by have h9 := hb1.2.2.2.1; omega)

set_option maxHeartbeats 4000000 in
set_option maxRecDepth 100000 in
theorem call_11 (l : Launch) (G : gG) (lq : Nat) (S S' : SpT) (a b cv dv : Int32) (r : Int) (h : DoV l G lq yX3_goBack wsX3_goBack [.int a] S r S') : LW l G lq yL_call wsL_call { frames := 9, cells := 4, slots := 528, locals := 230 } [.int (nI 11), .int a, .int b, .int cv, .int dv] S (zI r) S' 4 528 := by
  intro wv hC
  refine gMw_mk (cc := cL_call) (nL := 7) (ret := some .int) (hh := [(0, 227, 228, 66), (0, 227, 234, 68), (0, 227, 240, 70)]) (Qc := fun A => va_Qi (S := va_W) (fun r' u => r' = zI r ∧ clS G lq u S') (gB G A (fun u => u)) A) (by decide) rfl (Nat.le_of_ble_eq_true rfl) ?_
  intro p e s m args below meth c A F htb hZ ls hl hP hD hS
  have hx := F.1
  have hb := F.2.1
  have hts := F.2.2.2.2.2.2.1
  have hKK := F.2.2.2.2.2.2.2.2.1
  have hl : lv_has ls 7 [(0, .ref lq), (1, .int (nI 11)), (2, .int a), (3, .int b), (4, .int cv), (5, .int dv)] := hl
  have hP : va_P G.1 vwCl (wv ++ []) s.heap := by rw [List.append_nil]; exact hP
  have hD : va_D A (wv ++ []) := by rw [List.append_nil]; exact hD
  generalize hH : s.heap = H at hP ⊢
  have hS0 : va_S A s.heap H [] := by rw [← hH]; exact va_S.rf
  clear hS
  have hS := hS0
  clear hS0
  generalize hLo : ([] : List Loc) = locs at hS ⊢
  refine lv_iload_n hx hb dL_call_0 rfl (lv_at hl 1 rfl) ?_
  refine bZT_ne (tgt := 17) hx hb dL_call_1 (by decide) (by decide) ?_
  refine lv_iload_n hx hb dL_call_17 rfl (lv_at hl 1 rfl) ?_
  refine lv_iconst (v := nI 1) hx hb dL_call_18 (by decide) ?_
  refine bIT_ne (tgt := 35) hx hb dL_call_19 (by decide) (by decide) ?_
  refine lv_iload_n hx hb dL_call_35 rfl (lv_at hl 1 rfl) ?_
  refine lv_iconst (v := nI 2) hx hb dL_call_36 (by decide) ?_
  refine bIT_ne (tgt := 48) hx hb dL_call_37 (by decide) (by decide) ?_
  refine lv_iload_n hx hb dL_call_48 rfl (lv_at hl 1 rfl) ?_
  refine lv_iconst (v := nI 3) hx hb dL_call_49 (by decide) ?_
  refine bIT_ne (tgt := 64) hx hb dL_call_50 (by decide) (by decide) ?_
  refine lv_iload_n hx hb dL_call_64 rfl (lv_at hl 1 rfl) ?_
  refine lv_iconst (v := nI 4) hx hb dL_call_65 (by decide) ?_
  refine bIT_ne (tgt := 82) hx hb dL_call_66 (by decide) (by decide) ?_
  refine lv_iload_n hx hb dL_call_82 rfl (lv_at hl 1 rfl) ?_
  refine lv_iconst (v := nI 5) hx hb dL_call_83 (by decide) ?_
  refine bIT_ne (tgt := 95) hx hb dL_call_84 (by decide) (by decide) ?_
  refine lv_iload_n hx hb dL_call_95 rfl (lv_at hl 1 rfl) ?_
  refine lv_bipush (v := nI 6) hx hb dL_call_96 (by decide) ?_
  refine bIT_ne (tgt := 109) hx hb dL_call_98 (by decide) (by decide) ?_
  refine lv_iload_n hx hb dL_call_109 rfl (lv_at hl 1 rfl) ?_
  refine lv_bipush (v := nI 7) hx hb dL_call_110 (by decide) ?_
  refine bIT_ne (tgt := 123) hx hb dL_call_112 (by decide) (by decide) ?_
  refine lv_iload_n hx hb dL_call_123 rfl (lv_at hl 1 rfl) ?_
  refine lv_bipush (v := nI 8) hx hb dL_call_124 (by decide) ?_
  refine bIT_ne (tgt := 136) hx hb dL_call_126 (by decide) (by decide) ?_
  refine lv_iload_n hx hb dL_call_136 rfl (lv_at hl 1 rfl) ?_
  refine lv_bipush (v := nI 9) hx hb dL_call_137 (by decide) ?_
  refine bIT_ne (tgt := 149) hx hb dL_call_139 (by decide) (by decide) ?_
  refine lv_iload_n hx hb dL_call_149 rfl (lv_at hl 1 rfl) ?_
  refine lv_bipush (v := nI 10) hx hb dL_call_150 (by decide) ?_
  refine bIT_ne (tgt := 163) hx hb dL_call_152 (by decide) (by decide) ?_
  refine lv_iload_n hx hb dL_call_163 rfl (lv_at hl 1 rfl) ?_
  refine lv_bipush (v := nI 11) hx hb dL_call_164 (by decide) ?_
  refine bIF_ne (tgt := 177) hx hb dL_call_166 (by decide) (by decide) ?_
  refine lv_aload_n hx hb dL_call_169 rfl (lv_at hl 0 rfl) ?_
  refine lv_iload_n hx hb dL_call_170 rfl (lv_at hl 2 rfl) ?_
  rcases h with ⟨rm, mc, ms, hb1, hM⟩ | ⟨E, rm, mc, ms, hb1, rfl, hE, hM⟩
  · refine lqV (own := RL) (index := 48) (bytes := cX3_goBack) (n := 1) (As := [.int a]) (rest := []) (c2 := 4) (s2 := 528) F hM hC gL_call_X3_goBack rfl rfl hb1.1 hb1.2.1 (by decide +kernel) rfl ⟨by have h9 := hb1.2.2.2.2.1; show rm.frames + 1 ≤ 9; omega, by have h9 := hb1.2.2.2.2.2; show 8 + (3 + 11) + rm.locals ≤ 230; omega⟩ hP hD hS rfl hl.1 (Nat.le_of_ble_eq_true rfl) dL_call_171 ⟨by have h9 := hb1.2.2.1; omega, by have h9 := hb1.2.2.2.1; omega⟩ ⟨Nat.le_of_ble_eq_true rfl, Nat.le_of_ble_eq_true rfl⟩ (fun u H locs hC hP hD hS => ?_)
    refine lv_goto (tgt := 227) hx hb dL_call_174 (by decide) ?_
    exact gRi F dL_call_227 rfl u ⟨rfl, hC⟩ (gPl hP) (gDl hD) hS (Nat.le_of_ble_eq_true rfl) (Nat.le_of_ble_eq_true rfl)
  · obtain ⟨fs, h0⟩ := cl_recv hC
    refine gXrun F (gRunVx (own := RL) (C := RX3) (ci := 3) (bytes := cX3_goBack) (n := 1) (As := [.int a]) (rest := []) F hZ hS (hM wv hC H.size) gL_call_X3_goBack rfl rfl hb1.1 hb1.2.1 (by decide +kernel) rfl ⟨by have h9 := hb1.2.2.2.2.1; show rm.frames + 1 ≤ 9; omega, by have h9 := hb1.2.2.2.2.2; show 8 + (3 + 11) + rm.locals ≤ 230; omega⟩ hP hD (lit := wv) (wt := []) (wc := wv) (isC := List.range wv.length) (gRange wv) (gRange_nd _) rfl h0 rfl hl.1 (Nat.le_of_ble_eq_true rfl) dL_call_171 ⟨by have h9 := hb1.2.2.1; show 0 + mc ≤ 4; omega, by have h9 := hb1.2.2.2.1; show 0 + ms ≤ 528; omega⟩) hP hD hS (lit := wv) (wt := []) (wc := wv) (isC := List.range wv.length) (wr := []) (isR := []) (gRange wv) rfl rfl (fun _ h_ => by cases h_) (fun ce q9 u H locs hp hP hD hS hce hcv hcl => ?_)
    have hP : va_P G.1 vwCl (u ++ []) H := hP
    have hD : va_D A (u ++ []) := hD
    rcases hE with ⟨rfl, rfl⟩ | ⟨rfl, rfl⟩ | ⟨rfl, rfl⟩
    · refine vx_catch (own := RL) (name := gIO) (E := gIO) F.2.2.2.2.2.1 [] ⟨0, 227, 228, 66⟩ [⟨0, 227, 234, 68⟩, ⟨0, 227, 240, 70⟩] (by rw [htb]; rfl) (fun _ h_ => by cases h_) rfl (by decide) (F.2.2.2.2.2.2.1 (.classLink RL 66 gIO) (by decide +kernel)) (va_Nw.use rfl (hKK.2.2.2.2.2.1 (gIO, gIO) (by decide +kernel))) hce hcv hcl ?_
      refine lv_astore (lv' := [(6, .ref q9), (0, .ref lq), (1, .int (nI 11)), (2, .int a), (3, .int b), (4, .int cv), (5, .int dv)]) hx hb dL_call_228 hl (by decide) rfl (fun ls hl => ?_)
      refine lv_sipush (v := zI (-2011)) hx hb dL_call_230 (by decide) ?_
      exact gRi F dL_call_233 rfl u ⟨rfl, hp⟩ (gPl hP) (gDl hD) hS (by have h9 := hb1.2.2.1; omega) (by have h9 := hb1.2.2.2.1; omega)
    · refine vx_catch (own := RL) (name := gIA) (E := gIA) F.2.2.2.2.2.1 [⟨0, 227, 228, 66⟩] ⟨0, 227, 234, 68⟩ [⟨0, 227, 240, 70⟩] (by rw [htb]; rfl) (List.forall_mem_cons.mpr ⟨Or.inr ⟨by decide, gIO, F.2.2.2.2.2.2.1 (.classLink RL 66 gIO) (by decide +kernel), hKK.2.2.2.2.2.2.1 (gIA, gIO) (by decide +kernel)⟩, fun _ h_ => by cases h_⟩) rfl (by decide) (F.2.2.2.2.2.2.1 (.classLink RL 68 gIA) (by decide +kernel)) (va_Nw.use rfl (hKK.2.2.2.2.2.1 (gIA, gIA) (by decide +kernel))) hce hcv hcl ?_
      refine lv_astore (lv' := [(6, .ref q9), (0, .ref lq), (1, .int (nI 11)), (2, .int a), (3, .int b), (4, .int cv), (5, .int dv)]) hx hb dL_call_234 hl (by decide) rfl (fun ls hl => ?_)
      refine lv_sipush (v := zI (-2012)) hx hb dL_call_236 (by decide) ?_
      exact gRi F dL_call_239 rfl u ⟨rfl, hp⟩ (gPl hP) (gDl hD) hS (by have h9 := hb1.2.2.1; omega) (by have h9 := hb1.2.2.2.1; omega)
    · refine vx_catch (own := RL) (name := gIS) (E := gIS) F.2.2.2.2.2.1 [⟨0, 227, 228, 66⟩, ⟨0, 227, 234, 68⟩] ⟨0, 227, 240, 70⟩ [] (by rw [htb]; rfl) (List.forall_mem_cons.mpr ⟨Or.inr ⟨by decide, gIO, F.2.2.2.2.2.2.1 (.classLink RL 66 gIO) (by decide +kernel), hKK.2.2.2.2.2.2.1 (gIS, gIO) (by decide +kernel)⟩, List.forall_mem_cons.mpr ⟨Or.inr ⟨by decide, gIA, F.2.2.2.2.2.2.1 (.classLink RL 68 gIA) (by decide +kernel), hKK.2.2.2.2.2.2.1 (gIS, gIA) (by decide +kernel)⟩, fun _ h_ => by cases h_⟩⟩) rfl (by decide) (F.2.2.2.2.2.2.1 (.classLink RL 70 gIS) (by decide +kernel)) (va_Nw.use rfl (hKK.2.2.2.2.2.1 (gIS, gIS) (by decide +kernel))) hce hcv hcl ?_
      refine lv_astore (lv' := [(6, .ref q9), (0, .ref lq), (1, .int (nI 11)), (2, .int a), (3, .int b), (4, .int cv), (5, .int dv)]) hx hb dL_call_240 hl (by decide) rfl (fun ls hl => ?_)
      refine lv_sipush (v := zI (-2013)) hx hb dL_call_242 (by decide) ?_
      exact gRi F dL_call_245 rfl u ⟨rfl, hp⟩ (gPl hP) (gDl hD) hS (by have h9 := hb1.2.2.1; omega) (by have h9 := hb1.2.2.2.1; omega)

set_option maxHeartbeats 4000000 in
set_option maxRecDepth 100000 in
theorem call_12 (l : Launch) (G : gG) (lq : Nat) (S S' : SpT) (a b cv dv : Int32) (r : Int) (h : DoS l G lq yL_cell wsL_cell [.int (nI 12), .int a, .int b] S r S') : LW l G lq yL_call wsL_call { frames := 9, cells := 4, slots := 528, locals := 230 } [.int (nI 12), .int a, .int b, .int cv, .int dv] S (zI r) S' 4 528 := by
  intro wv hC
  refine gMw_mk (cc := cL_call) (nL := 7) (ret := some .int) (hh := [(0, 227, 228, 66), (0, 227, 234, 68), (0, 227, 240, 70)]) (Qc := fun A => va_Qi (S := va_W) (fun r' u => r' = zI r ∧ clS G lq u S') (gB G A (fun u => u)) A) (by decide) rfl (Nat.le_of_ble_eq_true rfl) ?_
  intro p e s m args below meth c A F htb hZ ls hl hP hD hS
  have hx := F.1
  have hb := F.2.1
  have hts := F.2.2.2.2.2.2.1
  have hKK := F.2.2.2.2.2.2.2.2.1
  have hl : lv_has ls 7 [(0, .ref lq), (1, .int (nI 12)), (2, .int a), (3, .int b), (4, .int cv), (5, .int dv)] := hl
  have hP : va_P G.1 vwCl (wv ++ []) s.heap := by rw [List.append_nil]; exact hP
  have hD : va_D A (wv ++ []) := by rw [List.append_nil]; exact hD
  generalize hH : s.heap = H at hP ⊢
  have hS0 : va_S A s.heap H [] := by rw [← hH]; exact va_S.rf
  clear hS
  have hS := hS0
  clear hS0
  generalize hLo : ([] : List Loc) = locs at hS ⊢
  refine lv_iload_n hx hb dL_call_0 rfl (lv_at hl 1 rfl) ?_
  refine bZT_ne (tgt := 17) hx hb dL_call_1 (by decide) (by decide) ?_
  refine lv_iload_n hx hb dL_call_17 rfl (lv_at hl 1 rfl) ?_
  refine lv_iconst (v := nI 1) hx hb dL_call_18 (by decide) ?_
  refine bIT_ne (tgt := 35) hx hb dL_call_19 (by decide) (by decide) ?_
  refine lv_iload_n hx hb dL_call_35 rfl (lv_at hl 1 rfl) ?_
  refine lv_iconst (v := nI 2) hx hb dL_call_36 (by decide) ?_
  refine bIT_ne (tgt := 48) hx hb dL_call_37 (by decide) (by decide) ?_
  refine lv_iload_n hx hb dL_call_48 rfl (lv_at hl 1 rfl) ?_
  refine lv_iconst (v := nI 3) hx hb dL_call_49 (by decide) ?_
  refine bIT_ne (tgt := 64) hx hb dL_call_50 (by decide) (by decide) ?_
  refine lv_iload_n hx hb dL_call_64 rfl (lv_at hl 1 rfl) ?_
  refine lv_iconst (v := nI 4) hx hb dL_call_65 (by decide) ?_
  refine bIT_ne (tgt := 82) hx hb dL_call_66 (by decide) (by decide) ?_
  refine lv_iload_n hx hb dL_call_82 rfl (lv_at hl 1 rfl) ?_
  refine lv_iconst (v := nI 5) hx hb dL_call_83 (by decide) ?_
  refine bIT_ne (tgt := 95) hx hb dL_call_84 (by decide) (by decide) ?_
  refine lv_iload_n hx hb dL_call_95 rfl (lv_at hl 1 rfl) ?_
  refine lv_bipush (v := nI 6) hx hb dL_call_96 (by decide) ?_
  refine bIT_ne (tgt := 109) hx hb dL_call_98 (by decide) (by decide) ?_
  refine lv_iload_n hx hb dL_call_109 rfl (lv_at hl 1 rfl) ?_
  refine lv_bipush (v := nI 7) hx hb dL_call_110 (by decide) ?_
  refine bIT_ne (tgt := 123) hx hb dL_call_112 (by decide) (by decide) ?_
  refine lv_iload_n hx hb dL_call_123 rfl (lv_at hl 1 rfl) ?_
  refine lv_bipush (v := nI 8) hx hb dL_call_124 (by decide) ?_
  refine bIT_ne (tgt := 136) hx hb dL_call_126 (by decide) (by decide) ?_
  refine lv_iload_n hx hb dL_call_136 rfl (lv_at hl 1 rfl) ?_
  refine lv_bipush (v := nI 9) hx hb dL_call_137 (by decide) ?_
  refine bIT_ne (tgt := 149) hx hb dL_call_139 (by decide) (by decide) ?_
  refine lv_iload_n hx hb dL_call_149 rfl (lv_at hl 1 rfl) ?_
  refine lv_bipush (v := nI 10) hx hb dL_call_150 (by decide) ?_
  refine bIT_ne (tgt := 163) hx hb dL_call_152 (by decide) (by decide) ?_
  refine lv_iload_n hx hb dL_call_163 rfl (lv_at hl 1 rfl) ?_
  refine lv_bipush (v := nI 11) hx hb dL_call_164 (by decide) ?_
  refine bIT_ne (tgt := 177) hx hb dL_call_166 (by decide) (by decide) ?_
  refine lv_iload_n hx hb dL_call_177 rfl (lv_at hl 1 rfl) ?_
  refine lv_bipush (v := nI 17) hx hb dL_call_178 (by decide) ?_
  refine bIF_ge (tgt := 193) hx hb dL_call_180 (by decide) (by decide) ?_
  refine lv_aload_n hx hb dL_call_183 rfl (lv_at hl 0 rfl) ?_
  refine lv_iload_n hx hb dL_call_184 rfl (lv_at hl 1 rfl) ?_
  refine lv_iload_n hx hb dL_call_185 rfl (lv_at hl 2 rfl) ?_
  refine lv_iload_n hx hb dL_call_186 rfl (lv_at hl 3 rfl) ?_
  rcases h with ⟨rm, mc, ms, hb1, hM⟩ | ⟨E, rm, mc, ms, hb1, rfl, hE, hM⟩
  · refine lqS (own := RL) (index := 51) (bytes := cL_cell) (n := 4) (As := [.int (nI 12), .int a, .int b]) (rest := []) (c2 := 4) (s2 := 528) F hZ hM hC gL_call_L_cell rfl rfl hb1.1 hb1.2.1 (by decide +kernel) rfl ⟨by have h9 := hb1.2.2.2.2.1; show rm.frames + 1 ≤ 9; omega, by have h9 := hb1.2.2.2.2.2; show 8 + (4 + 11) + rm.locals ≤ 230; omega⟩ hP hD hS rfl hl.1 (Nat.le_of_ble_eq_true rfl) dL_call_187 ⟨by have h9 := hb1.2.2.1; omega, by have h9 := hb1.2.2.2.1; omega⟩ ⟨Nat.le_of_ble_eq_true rfl, Nat.le_of_ble_eq_true rfl⟩ (fun u H locs hC hP hD hS => ?_)
    refine lv_goto (tgt := 227) hx hb dL_call_190 (by decide) ?_
    exact gRi F dL_call_227 rfl u ⟨rfl, hC⟩ (gPl hP) (gDl hD) hS (Nat.le_of_ble_eq_true rfl) (Nat.le_of_ble_eq_true rfl)
  · obtain ⟨fs, h0⟩ := cl_recv hC
    refine gXrun F (gRunSx (own := RL) (bytes := cL_cell) (n := 4) (As := [.ref lq, .int (nI 12), .int a, .int b]) (rest := []) F hZ hS (hM wv hC H.size) gL_call_L_cell rfl rfl hb1.1 hb1.2.1 (by decide +kernel) rfl ⟨by have h9 := hb1.2.2.2.2.1; show rm.frames + 1 ≤ 9; omega, by have h9 := hb1.2.2.2.2.2; show 8 + (4 + 11) + rm.locals ≤ 230; omega⟩ hP hD (lit := wv) (wt := []) (wc := wv) (isC := List.range wv.length) (gRange wv) (gRange_nd _) rfl hl.1 (Nat.le_of_ble_eq_true rfl) dL_call_187 ⟨by have h9 := hb1.2.2.1; show 0 + mc ≤ 4; omega, by have h9 := hb1.2.2.2.1; show 0 + ms ≤ 528; omega⟩) hP hD hS (lit := wv) (wt := []) (wc := wv) (isC := List.range wv.length) (wr := []) (isR := []) (gRange wv) rfl rfl (fun _ h_ => by cases h_) (fun ce q9 u H locs hp hP hD hS hce hcv hcl => ?_)
    have hP : va_P G.1 vwCl (u ++ []) H := hP
    have hD : va_D A (u ++ []) := hD
    rcases hE with ⟨rfl, rfl⟩ | ⟨rfl, rfl⟩ | ⟨rfl, rfl⟩
    · refine vx_catch (own := RL) (name := gIO) (E := gIO) F.2.2.2.2.2.1 [] ⟨0, 227, 228, 66⟩ [⟨0, 227, 234, 68⟩, ⟨0, 227, 240, 70⟩] (by rw [htb]; rfl) (fun _ h_ => by cases h_) rfl (by decide) (F.2.2.2.2.2.2.1 (.classLink RL 66 gIO) (by decide +kernel)) (va_Nw.use rfl (hKK.2.2.2.2.2.1 (gIO, gIO) (by decide +kernel))) hce hcv hcl ?_
      refine lv_astore (lv' := [(6, .ref q9), (0, .ref lq), (1, .int (nI 12)), (2, .int a), (3, .int b), (4, .int cv), (5, .int dv)]) hx hb dL_call_228 hl (by decide) rfl (fun ls hl => ?_)
      refine lv_sipush (v := zI (-2011)) hx hb dL_call_230 (by decide) ?_
      exact gRi F dL_call_233 rfl u ⟨rfl, hp⟩ (gPl hP) (gDl hD) hS (by have h9 := hb1.2.2.1; omega) (by have h9 := hb1.2.2.2.1; omega)
    · refine vx_catch (own := RL) (name := gIA) (E := gIA) F.2.2.2.2.2.1 [⟨0, 227, 228, 66⟩] ⟨0, 227, 234, 68⟩ [⟨0, 227, 240, 70⟩] (by rw [htb]; rfl) (List.forall_mem_cons.mpr ⟨Or.inr ⟨by decide, gIO, F.2.2.2.2.2.2.1 (.classLink RL 66 gIO) (by decide +kernel), hKK.2.2.2.2.2.2.1 (gIA, gIO) (by decide +kernel)⟩, fun _ h_ => by cases h_⟩) rfl (by decide) (F.2.2.2.2.2.2.1 (.classLink RL 68 gIA) (by decide +kernel)) (va_Nw.use rfl (hKK.2.2.2.2.2.1 (gIA, gIA) (by decide +kernel))) hce hcv hcl ?_
      refine lv_astore (lv' := [(6, .ref q9), (0, .ref lq), (1, .int (nI 12)), (2, .int a), (3, .int b), (4, .int cv), (5, .int dv)]) hx hb dL_call_234 hl (by decide) rfl (fun ls hl => ?_)
      refine lv_sipush (v := zI (-2012)) hx hb dL_call_236 (by decide) ?_
      exact gRi F dL_call_239 rfl u ⟨rfl, hp⟩ (gPl hP) (gDl hD) hS (by have h9 := hb1.2.2.1; omega) (by have h9 := hb1.2.2.2.1; omega)
    · refine vx_catch (own := RL) (name := gIS) (E := gIS) F.2.2.2.2.2.1 [⟨0, 227, 228, 66⟩, ⟨0, 227, 234, 68⟩] ⟨0, 227, 240, 70⟩ [] (by rw [htb]; rfl) (List.forall_mem_cons.mpr ⟨Or.inr ⟨by decide, gIO, F.2.2.2.2.2.2.1 (.classLink RL 66 gIO) (by decide +kernel), hKK.2.2.2.2.2.2.1 (gIS, gIO) (by decide +kernel)⟩, List.forall_mem_cons.mpr ⟨Or.inr ⟨by decide, gIA, F.2.2.2.2.2.2.1 (.classLink RL 68 gIA) (by decide +kernel), hKK.2.2.2.2.2.2.1 (gIS, gIA) (by decide +kernel)⟩, fun _ h_ => by cases h_⟩⟩) rfl (by decide) (F.2.2.2.2.2.2.1 (.classLink RL 70 gIS) (by decide +kernel)) (va_Nw.use rfl (hKK.2.2.2.2.2.1 (gIS, gIS) (by decide +kernel))) hce hcv hcl ?_
      refine lv_astore (lv' := [(6, .ref q9), (0, .ref lq), (1, .int (nI 12)), (2, .int a), (3, .int b), (4, .int cv), (5, .int dv)]) hx hb dL_call_240 hl (by decide) rfl (fun ls hl => ?_)
      refine lv_sipush (v := zI (-2013)) hx hb dL_call_242 (by decide) ?_
      exact gRi F dL_call_245 rfl u ⟨rfl, hp⟩ (gPl hP) (gDl hD) hS (by have h9 := hb1.2.2.1; omega) (by have h9 := hb1.2.2.2.1; omega)

set_option maxHeartbeats 4000000 in
set_option maxRecDepth 100000 in
theorem call_13 (l : Launch) (G : gG) (lq : Nat) (S S' : SpT) (a b cv dv : Int32) (r : Int) (h : DoS l G lq yL_cell wsL_cell [.int (nI 13), .int a, .int b] S r S') : LW l G lq yL_call wsL_call { frames := 9, cells := 4, slots := 528, locals := 230 } [.int (nI 13), .int a, .int b, .int cv, .int dv] S (zI r) S' 4 528 := by
  intro wv hC
  refine gMw_mk (cc := cL_call) (nL := 7) (ret := some .int) (hh := [(0, 227, 228, 66), (0, 227, 234, 68), (0, 227, 240, 70)]) (Qc := fun A => va_Qi (S := va_W) (fun r' u => r' = zI r ∧ clS G lq u S') (gB G A (fun u => u)) A) (by decide) rfl (Nat.le_of_ble_eq_true rfl) ?_
  intro p e s m args below meth c A F htb hZ ls hl hP hD hS
  have hx := F.1
  have hb := F.2.1
  have hts := F.2.2.2.2.2.2.1
  have hKK := F.2.2.2.2.2.2.2.2.1
  have hl : lv_has ls 7 [(0, .ref lq), (1, .int (nI 13)), (2, .int a), (3, .int b), (4, .int cv), (5, .int dv)] := hl
  have hP : va_P G.1 vwCl (wv ++ []) s.heap := by rw [List.append_nil]; exact hP
  have hD : va_D A (wv ++ []) := by rw [List.append_nil]; exact hD
  generalize hH : s.heap = H at hP ⊢
  have hS0 : va_S A s.heap H [] := by rw [← hH]; exact va_S.rf
  clear hS
  have hS := hS0
  clear hS0
  generalize hLo : ([] : List Loc) = locs at hS ⊢
  refine lv_iload_n hx hb dL_call_0 rfl (lv_at hl 1 rfl) ?_
  refine bZT_ne (tgt := 17) hx hb dL_call_1 (by decide) (by decide) ?_
  refine lv_iload_n hx hb dL_call_17 rfl (lv_at hl 1 rfl) ?_
  refine lv_iconst (v := nI 1) hx hb dL_call_18 (by decide) ?_
  refine bIT_ne (tgt := 35) hx hb dL_call_19 (by decide) (by decide) ?_
  refine lv_iload_n hx hb dL_call_35 rfl (lv_at hl 1 rfl) ?_
  refine lv_iconst (v := nI 2) hx hb dL_call_36 (by decide) ?_
  refine bIT_ne (tgt := 48) hx hb dL_call_37 (by decide) (by decide) ?_
  refine lv_iload_n hx hb dL_call_48 rfl (lv_at hl 1 rfl) ?_
  refine lv_iconst (v := nI 3) hx hb dL_call_49 (by decide) ?_
  refine bIT_ne (tgt := 64) hx hb dL_call_50 (by decide) (by decide) ?_
  refine lv_iload_n hx hb dL_call_64 rfl (lv_at hl 1 rfl) ?_
  refine lv_iconst (v := nI 4) hx hb dL_call_65 (by decide) ?_
  refine bIT_ne (tgt := 82) hx hb dL_call_66 (by decide) (by decide) ?_
  refine lv_iload_n hx hb dL_call_82 rfl (lv_at hl 1 rfl) ?_
  refine lv_iconst (v := nI 5) hx hb dL_call_83 (by decide) ?_
  refine bIT_ne (tgt := 95) hx hb dL_call_84 (by decide) (by decide) ?_
  refine lv_iload_n hx hb dL_call_95 rfl (lv_at hl 1 rfl) ?_
  refine lv_bipush (v := nI 6) hx hb dL_call_96 (by decide) ?_
  refine bIT_ne (tgt := 109) hx hb dL_call_98 (by decide) (by decide) ?_
  refine lv_iload_n hx hb dL_call_109 rfl (lv_at hl 1 rfl) ?_
  refine lv_bipush (v := nI 7) hx hb dL_call_110 (by decide) ?_
  refine bIT_ne (tgt := 123) hx hb dL_call_112 (by decide) (by decide) ?_
  refine lv_iload_n hx hb dL_call_123 rfl (lv_at hl 1 rfl) ?_
  refine lv_bipush (v := nI 8) hx hb dL_call_124 (by decide) ?_
  refine bIT_ne (tgt := 136) hx hb dL_call_126 (by decide) (by decide) ?_
  refine lv_iload_n hx hb dL_call_136 rfl (lv_at hl 1 rfl) ?_
  refine lv_bipush (v := nI 9) hx hb dL_call_137 (by decide) ?_
  refine bIT_ne (tgt := 149) hx hb dL_call_139 (by decide) (by decide) ?_
  refine lv_iload_n hx hb dL_call_149 rfl (lv_at hl 1 rfl) ?_
  refine lv_bipush (v := nI 10) hx hb dL_call_150 (by decide) ?_
  refine bIT_ne (tgt := 163) hx hb dL_call_152 (by decide) (by decide) ?_
  refine lv_iload_n hx hb dL_call_163 rfl (lv_at hl 1 rfl) ?_
  refine lv_bipush (v := nI 11) hx hb dL_call_164 (by decide) ?_
  refine bIT_ne (tgt := 177) hx hb dL_call_166 (by decide) (by decide) ?_
  refine lv_iload_n hx hb dL_call_177 rfl (lv_at hl 1 rfl) ?_
  refine lv_bipush (v := nI 17) hx hb dL_call_178 (by decide) ?_
  refine bIF_ge (tgt := 193) hx hb dL_call_180 (by decide) (by decide) ?_
  refine lv_aload_n hx hb dL_call_183 rfl (lv_at hl 0 rfl) ?_
  refine lv_iload_n hx hb dL_call_184 rfl (lv_at hl 1 rfl) ?_
  refine lv_iload_n hx hb dL_call_185 rfl (lv_at hl 2 rfl) ?_
  refine lv_iload_n hx hb dL_call_186 rfl (lv_at hl 3 rfl) ?_
  rcases h with ⟨rm, mc, ms, hb1, hM⟩ | ⟨E, rm, mc, ms, hb1, rfl, hE, hM⟩
  · refine lqS (own := RL) (index := 51) (bytes := cL_cell) (n := 4) (As := [.int (nI 13), .int a, .int b]) (rest := []) (c2 := 4) (s2 := 528) F hZ hM hC gL_call_L_cell rfl rfl hb1.1 hb1.2.1 (by decide +kernel) rfl ⟨by have h9 := hb1.2.2.2.2.1; show rm.frames + 1 ≤ 9; omega, by have h9 := hb1.2.2.2.2.2; show 8 + (4 + 11) + rm.locals ≤ 230; omega⟩ hP hD hS rfl hl.1 (Nat.le_of_ble_eq_true rfl) dL_call_187 ⟨by have h9 := hb1.2.2.1; omega, by have h9 := hb1.2.2.2.1; omega⟩ ⟨Nat.le_of_ble_eq_true rfl, Nat.le_of_ble_eq_true rfl⟩ (fun u H locs hC hP hD hS => ?_)
    refine lv_goto (tgt := 227) hx hb dL_call_190 (by decide) ?_
    exact gRi F dL_call_227 rfl u ⟨rfl, hC⟩ (gPl hP) (gDl hD) hS (Nat.le_of_ble_eq_true rfl) (Nat.le_of_ble_eq_true rfl)
  · obtain ⟨fs, h0⟩ := cl_recv hC
    refine gXrun F (gRunSx (own := RL) (bytes := cL_cell) (n := 4) (As := [.ref lq, .int (nI 13), .int a, .int b]) (rest := []) F hZ hS (hM wv hC H.size) gL_call_L_cell rfl rfl hb1.1 hb1.2.1 (by decide +kernel) rfl ⟨by have h9 := hb1.2.2.2.2.1; show rm.frames + 1 ≤ 9; omega, by have h9 := hb1.2.2.2.2.2; show 8 + (4 + 11) + rm.locals ≤ 230; omega⟩ hP hD (lit := wv) (wt := []) (wc := wv) (isC := List.range wv.length) (gRange wv) (gRange_nd _) rfl hl.1 (Nat.le_of_ble_eq_true rfl) dL_call_187 ⟨by have h9 := hb1.2.2.1; show 0 + mc ≤ 4; omega, by have h9 := hb1.2.2.2.1; show 0 + ms ≤ 528; omega⟩) hP hD hS (lit := wv) (wt := []) (wc := wv) (isC := List.range wv.length) (wr := []) (isR := []) (gRange wv) rfl rfl (fun _ h_ => by cases h_) (fun ce q9 u H locs hp hP hD hS hce hcv hcl => ?_)
    have hP : va_P G.1 vwCl (u ++ []) H := hP
    have hD : va_D A (u ++ []) := hD
    rcases hE with ⟨rfl, rfl⟩ | ⟨rfl, rfl⟩ | ⟨rfl, rfl⟩
    · refine vx_catch (own := RL) (name := gIO) (E := gIO) F.2.2.2.2.2.1 [] ⟨0, 227, 228, 66⟩ [⟨0, 227, 234, 68⟩, ⟨0, 227, 240, 70⟩] (by rw [htb]; rfl) (fun _ h_ => by cases h_) rfl (by decide) (F.2.2.2.2.2.2.1 (.classLink RL 66 gIO) (by decide +kernel)) (va_Nw.use rfl (hKK.2.2.2.2.2.1 (gIO, gIO) (by decide +kernel))) hce hcv hcl ?_
      refine lv_astore (lv' := [(6, .ref q9), (0, .ref lq), (1, .int (nI 13)), (2, .int a), (3, .int b), (4, .int cv), (5, .int dv)]) hx hb dL_call_228 hl (by decide) rfl (fun ls hl => ?_)
      refine lv_sipush (v := zI (-2011)) hx hb dL_call_230 (by decide) ?_
      exact gRi F dL_call_233 rfl u ⟨rfl, hp⟩ (gPl hP) (gDl hD) hS (by have h9 := hb1.2.2.1; omega) (by have h9 := hb1.2.2.2.1; omega)
    · refine vx_catch (own := RL) (name := gIA) (E := gIA) F.2.2.2.2.2.1 [⟨0, 227, 228, 66⟩] ⟨0, 227, 234, 68⟩ [⟨0, 227, 240, 70⟩] (by rw [htb]; rfl) (List.forall_mem_cons.mpr ⟨Or.inr ⟨by decide, gIO, F.2.2.2.2.2.2.1 (.classLink RL 66 gIO) (by decide +kernel), hKK.2.2.2.2.2.2.1 (gIA, gIO) (by decide +kernel)⟩, fun _ h_ => by cases h_⟩) rfl (by decide) (F.2.2.2.2.2.2.1 (.classLink RL 68 gIA) (by decide +kernel)) (va_Nw.use rfl (hKK.2.2.2.2.2.1 (gIA, gIA) (by decide +kernel))) hce hcv hcl ?_
      refine lv_astore (lv' := [(6, .ref q9), (0, .ref lq), (1, .int (nI 13)), (2, .int a), (3, .int b), (4, .int cv), (5, .int dv)]) hx hb dL_call_234 hl (by decide) rfl (fun ls hl => ?_)
      refine lv_sipush (v := zI (-2012)) hx hb dL_call_236 (by decide) ?_
      exact gRi F dL_call_239 rfl u ⟨rfl, hp⟩ (gPl hP) (gDl hD) hS (by have h9 := hb1.2.2.1; omega) (by have h9 := hb1.2.2.2.1; omega)
    · refine vx_catch (own := RL) (name := gIS) (E := gIS) F.2.2.2.2.2.1 [⟨0, 227, 228, 66⟩, ⟨0, 227, 234, 68⟩] ⟨0, 227, 240, 70⟩ [] (by rw [htb]; rfl) (List.forall_mem_cons.mpr ⟨Or.inr ⟨by decide, gIO, F.2.2.2.2.2.2.1 (.classLink RL 66 gIO) (by decide +kernel), hKK.2.2.2.2.2.2.1 (gIS, gIO) (by decide +kernel)⟩, List.forall_mem_cons.mpr ⟨Or.inr ⟨by decide, gIA, F.2.2.2.2.2.2.1 (.classLink RL 68 gIA) (by decide +kernel), hKK.2.2.2.2.2.2.1 (gIS, gIA) (by decide +kernel)⟩, fun _ h_ => by cases h_⟩⟩) rfl (by decide) (F.2.2.2.2.2.2.1 (.classLink RL 70 gIS) (by decide +kernel)) (va_Nw.use rfl (hKK.2.2.2.2.2.1 (gIS, gIS) (by decide +kernel))) hce hcv hcl ?_
      refine lv_astore (lv' := [(6, .ref q9), (0, .ref lq), (1, .int (nI 13)), (2, .int a), (3, .int b), (4, .int cv), (5, .int dv)]) hx hb dL_call_240 hl (by decide) rfl (fun ls hl => ?_)
      refine lv_sipush (v := zI (-2013)) hx hb dL_call_242 (by decide) ?_
      exact gRi F dL_call_245 rfl u ⟨rfl, hp⟩ (gPl hP) (gDl hD) hS (by have h9 := hb1.2.2.1; omega) (by have h9 := hb1.2.2.2.1; omega)

set_option maxHeartbeats 4000000 in
set_option maxRecDepth 100000 in
theorem call_14 (l : Launch) (G : gG) (lq : Nat) (S S' : SpT) (a b cv dv : Int32) (r : Int) (h : DoS l G lq yL_cell wsL_cell [.int (nI 14), .int a, .int b] S r S') : LW l G lq yL_call wsL_call { frames := 9, cells := 4, slots := 528, locals := 230 } [.int (nI 14), .int a, .int b, .int cv, .int dv] S (zI r) S' 4 528 := by
  intro wv hC
  refine gMw_mk (cc := cL_call) (nL := 7) (ret := some .int) (hh := [(0, 227, 228, 66), (0, 227, 234, 68), (0, 227, 240, 70)]) (Qc := fun A => va_Qi (S := va_W) (fun r' u => r' = zI r ∧ clS G lq u S') (gB G A (fun u => u)) A) (by decide) rfl (Nat.le_of_ble_eq_true rfl) ?_
  intro p e s m args below meth c A F htb hZ ls hl hP hD hS
  have hx := F.1
  have hb := F.2.1
  have hts := F.2.2.2.2.2.2.1
  have hKK := F.2.2.2.2.2.2.2.2.1
  have hl : lv_has ls 7 [(0, .ref lq), (1, .int (nI 14)), (2, .int a), (3, .int b), (4, .int cv), (5, .int dv)] := hl
  have hP : va_P G.1 vwCl (wv ++ []) s.heap := by rw [List.append_nil]; exact hP
  have hD : va_D A (wv ++ []) := by rw [List.append_nil]; exact hD
  generalize hH : s.heap = H at hP ⊢
  have hS0 : va_S A s.heap H [] := by rw [← hH]; exact va_S.rf
  clear hS
  have hS := hS0
  clear hS0
  generalize hLo : ([] : List Loc) = locs at hS ⊢
  refine lv_iload_n hx hb dL_call_0 rfl (lv_at hl 1 rfl) ?_
  refine bZT_ne (tgt := 17) hx hb dL_call_1 (by decide) (by decide) ?_
  refine lv_iload_n hx hb dL_call_17 rfl (lv_at hl 1 rfl) ?_
  refine lv_iconst (v := nI 1) hx hb dL_call_18 (by decide) ?_
  refine bIT_ne (tgt := 35) hx hb dL_call_19 (by decide) (by decide) ?_
  refine lv_iload_n hx hb dL_call_35 rfl (lv_at hl 1 rfl) ?_
  refine lv_iconst (v := nI 2) hx hb dL_call_36 (by decide) ?_
  refine bIT_ne (tgt := 48) hx hb dL_call_37 (by decide) (by decide) ?_
  refine lv_iload_n hx hb dL_call_48 rfl (lv_at hl 1 rfl) ?_
  refine lv_iconst (v := nI 3) hx hb dL_call_49 (by decide) ?_
  refine bIT_ne (tgt := 64) hx hb dL_call_50 (by decide) (by decide) ?_
  refine lv_iload_n hx hb dL_call_64 rfl (lv_at hl 1 rfl) ?_
  refine lv_iconst (v := nI 4) hx hb dL_call_65 (by decide) ?_
  refine bIT_ne (tgt := 82) hx hb dL_call_66 (by decide) (by decide) ?_
  refine lv_iload_n hx hb dL_call_82 rfl (lv_at hl 1 rfl) ?_
  refine lv_iconst (v := nI 5) hx hb dL_call_83 (by decide) ?_
  refine bIT_ne (tgt := 95) hx hb dL_call_84 (by decide) (by decide) ?_
  refine lv_iload_n hx hb dL_call_95 rfl (lv_at hl 1 rfl) ?_
  refine lv_bipush (v := nI 6) hx hb dL_call_96 (by decide) ?_
  refine bIT_ne (tgt := 109) hx hb dL_call_98 (by decide) (by decide) ?_
  refine lv_iload_n hx hb dL_call_109 rfl (lv_at hl 1 rfl) ?_
  refine lv_bipush (v := nI 7) hx hb dL_call_110 (by decide) ?_
  refine bIT_ne (tgt := 123) hx hb dL_call_112 (by decide) (by decide) ?_
  refine lv_iload_n hx hb dL_call_123 rfl (lv_at hl 1 rfl) ?_
  refine lv_bipush (v := nI 8) hx hb dL_call_124 (by decide) ?_
  refine bIT_ne (tgt := 136) hx hb dL_call_126 (by decide) (by decide) ?_
  refine lv_iload_n hx hb dL_call_136 rfl (lv_at hl 1 rfl) ?_
  refine lv_bipush (v := nI 9) hx hb dL_call_137 (by decide) ?_
  refine bIT_ne (tgt := 149) hx hb dL_call_139 (by decide) (by decide) ?_
  refine lv_iload_n hx hb dL_call_149 rfl (lv_at hl 1 rfl) ?_
  refine lv_bipush (v := nI 10) hx hb dL_call_150 (by decide) ?_
  refine bIT_ne (tgt := 163) hx hb dL_call_152 (by decide) (by decide) ?_
  refine lv_iload_n hx hb dL_call_163 rfl (lv_at hl 1 rfl) ?_
  refine lv_bipush (v := nI 11) hx hb dL_call_164 (by decide) ?_
  refine bIT_ne (tgt := 177) hx hb dL_call_166 (by decide) (by decide) ?_
  refine lv_iload_n hx hb dL_call_177 rfl (lv_at hl 1 rfl) ?_
  refine lv_bipush (v := nI 17) hx hb dL_call_178 (by decide) ?_
  refine bIF_ge (tgt := 193) hx hb dL_call_180 (by decide) (by decide) ?_
  refine lv_aload_n hx hb dL_call_183 rfl (lv_at hl 0 rfl) ?_
  refine lv_iload_n hx hb dL_call_184 rfl (lv_at hl 1 rfl) ?_
  refine lv_iload_n hx hb dL_call_185 rfl (lv_at hl 2 rfl) ?_
  refine lv_iload_n hx hb dL_call_186 rfl (lv_at hl 3 rfl) ?_
  rcases h with ⟨rm, mc, ms, hb1, hM⟩ | ⟨E, rm, mc, ms, hb1, rfl, hE, hM⟩
  · refine lqS (own := RL) (index := 51) (bytes := cL_cell) (n := 4) (As := [.int (nI 14), .int a, .int b]) (rest := []) (c2 := 4) (s2 := 528) F hZ hM hC gL_call_L_cell rfl rfl hb1.1 hb1.2.1 (by decide +kernel) rfl ⟨by have h9 := hb1.2.2.2.2.1; show rm.frames + 1 ≤ 9; omega, by have h9 := hb1.2.2.2.2.2; show 8 + (4 + 11) + rm.locals ≤ 230; omega⟩ hP hD hS rfl hl.1 (Nat.le_of_ble_eq_true rfl) dL_call_187 ⟨by have h9 := hb1.2.2.1; omega, by have h9 := hb1.2.2.2.1; omega⟩ ⟨Nat.le_of_ble_eq_true rfl, Nat.le_of_ble_eq_true rfl⟩ (fun u H locs hC hP hD hS => ?_)
    refine lv_goto (tgt := 227) hx hb dL_call_190 (by decide) ?_
    exact gRi F dL_call_227 rfl u ⟨rfl, hC⟩ (gPl hP) (gDl hD) hS (Nat.le_of_ble_eq_true rfl) (Nat.le_of_ble_eq_true rfl)
  · obtain ⟨fs, h0⟩ := cl_recv hC
    refine gXrun F (gRunSx (own := RL) (bytes := cL_cell) (n := 4) (As := [.ref lq, .int (nI 14), .int a, .int b]) (rest := []) F hZ hS (hM wv hC H.size) gL_call_L_cell rfl rfl hb1.1 hb1.2.1 (by decide +kernel) rfl ⟨by have h9 := hb1.2.2.2.2.1; show rm.frames + 1 ≤ 9; omega, by have h9 := hb1.2.2.2.2.2; show 8 + (4 + 11) + rm.locals ≤ 230; omega⟩ hP hD (lit := wv) (wt := []) (wc := wv) (isC := List.range wv.length) (gRange wv) (gRange_nd _) rfl hl.1 (Nat.le_of_ble_eq_true rfl) dL_call_187 ⟨by have h9 := hb1.2.2.1; show 0 + mc ≤ 4; omega, by have h9 := hb1.2.2.2.1; show 0 + ms ≤ 528; omega⟩) hP hD hS (lit := wv) (wt := []) (wc := wv) (isC := List.range wv.length) (wr := []) (isR := []) (gRange wv) rfl rfl (fun _ h_ => by cases h_) (fun ce q9 u H locs hp hP hD hS hce hcv hcl => ?_)
    have hP : va_P G.1 vwCl (u ++ []) H := hP
    have hD : va_D A (u ++ []) := hD
    rcases hE with ⟨rfl, rfl⟩ | ⟨rfl, rfl⟩ | ⟨rfl, rfl⟩
    · refine vx_catch (own := RL) (name := gIO) (E := gIO) F.2.2.2.2.2.1 [] ⟨0, 227, 228, 66⟩ [⟨0, 227, 234, 68⟩, ⟨0, 227, 240, 70⟩] (by rw [htb]; rfl) (fun _ h_ => by cases h_) rfl (by decide) (F.2.2.2.2.2.2.1 (.classLink RL 66 gIO) (by decide +kernel)) (va_Nw.use rfl (hKK.2.2.2.2.2.1 (gIO, gIO) (by decide +kernel))) hce hcv hcl ?_
      refine lv_astore (lv' := [(6, .ref q9), (0, .ref lq), (1, .int (nI 14)), (2, .int a), (3, .int b), (4, .int cv), (5, .int dv)]) hx hb dL_call_228 hl (by decide) rfl (fun ls hl => ?_)
      refine lv_sipush (v := zI (-2011)) hx hb dL_call_230 (by decide) ?_
      exact gRi F dL_call_233 rfl u ⟨rfl, hp⟩ (gPl hP) (gDl hD) hS (by have h9 := hb1.2.2.1; omega) (by have h9 := hb1.2.2.2.1; omega)
    · refine vx_catch (own := RL) (name := gIA) (E := gIA) F.2.2.2.2.2.1 [⟨0, 227, 228, 66⟩] ⟨0, 227, 234, 68⟩ [⟨0, 227, 240, 70⟩] (by rw [htb]; rfl) (List.forall_mem_cons.mpr ⟨Or.inr ⟨by decide, gIO, F.2.2.2.2.2.2.1 (.classLink RL 66 gIO) (by decide +kernel), hKK.2.2.2.2.2.2.1 (gIA, gIO) (by decide +kernel)⟩, fun _ h_ => by cases h_⟩) rfl (by decide) (F.2.2.2.2.2.2.1 (.classLink RL 68 gIA) (by decide +kernel)) (va_Nw.use rfl (hKK.2.2.2.2.2.1 (gIA, gIA) (by decide +kernel))) hce hcv hcl ?_
      refine lv_astore (lv' := [(6, .ref q9), (0, .ref lq), (1, .int (nI 14)), (2, .int a), (3, .int b), (4, .int cv), (5, .int dv)]) hx hb dL_call_234 hl (by decide) rfl (fun ls hl => ?_)
      refine lv_sipush (v := zI (-2012)) hx hb dL_call_236 (by decide) ?_
      exact gRi F dL_call_239 rfl u ⟨rfl, hp⟩ (gPl hP) (gDl hD) hS (by have h9 := hb1.2.2.1; omega) (by have h9 := hb1.2.2.2.1; omega)
    · refine vx_catch (own := RL) (name := gIS) (E := gIS) F.2.2.2.2.2.1 [⟨0, 227, 228, 66⟩, ⟨0, 227, 234, 68⟩] ⟨0, 227, 240, 70⟩ [] (by rw [htb]; rfl) (List.forall_mem_cons.mpr ⟨Or.inr ⟨by decide, gIO, F.2.2.2.2.2.2.1 (.classLink RL 66 gIO) (by decide +kernel), hKK.2.2.2.2.2.2.1 (gIS, gIO) (by decide +kernel)⟩, List.forall_mem_cons.mpr ⟨Or.inr ⟨by decide, gIA, F.2.2.2.2.2.2.1 (.classLink RL 68 gIA) (by decide +kernel), hKK.2.2.2.2.2.2.1 (gIS, gIA) (by decide +kernel)⟩, fun _ h_ => by cases h_⟩⟩) rfl (by decide) (F.2.2.2.2.2.2.1 (.classLink RL 70 gIS) (by decide +kernel)) (va_Nw.use rfl (hKK.2.2.2.2.2.1 (gIS, gIS) (by decide +kernel))) hce hcv hcl ?_
      refine lv_astore (lv' := [(6, .ref q9), (0, .ref lq), (1, .int (nI 14)), (2, .int a), (3, .int b), (4, .int cv), (5, .int dv)]) hx hb dL_call_240 hl (by decide) rfl (fun ls hl => ?_)
      refine lv_sipush (v := zI (-2013)) hx hb dL_call_242 (by decide) ?_
      exact gRi F dL_call_245 rfl u ⟨rfl, hp⟩ (gPl hP) (gDl hD) hS (by have h9 := hb1.2.2.1; omega) (by have h9 := hb1.2.2.2.1; omega)

set_option maxHeartbeats 4000000 in
set_option maxRecDepth 100000 in
theorem call_15 (l : Launch) (G : gG) (lq : Nat) (S S' : SpT) (a b cv dv : Int32) (r : Int) (h : DoS l G lq yL_cell wsL_cell [.int (nI 15), .int a, .int b] S r S') : LW l G lq yL_call wsL_call { frames := 9, cells := 4, slots := 528, locals := 230 } [.int (nI 15), .int a, .int b, .int cv, .int dv] S (zI r) S' 4 528 := by
  intro wv hC
  refine gMw_mk (cc := cL_call) (nL := 7) (ret := some .int) (hh := [(0, 227, 228, 66), (0, 227, 234, 68), (0, 227, 240, 70)]) (Qc := fun A => va_Qi (S := va_W) (fun r' u => r' = zI r ∧ clS G lq u S') (gB G A (fun u => u)) A) (by decide) rfl (Nat.le_of_ble_eq_true rfl) ?_
  intro p e s m args below meth c A F htb hZ ls hl hP hD hS
  have hx := F.1
  have hb := F.2.1
  have hts := F.2.2.2.2.2.2.1
  have hKK := F.2.2.2.2.2.2.2.2.1
  have hl : lv_has ls 7 [(0, .ref lq), (1, .int (nI 15)), (2, .int a), (3, .int b), (4, .int cv), (5, .int dv)] := hl
  have hP : va_P G.1 vwCl (wv ++ []) s.heap := by rw [List.append_nil]; exact hP
  have hD : va_D A (wv ++ []) := by rw [List.append_nil]; exact hD
  generalize hH : s.heap = H at hP ⊢
  have hS0 : va_S A s.heap H [] := by rw [← hH]; exact va_S.rf
  clear hS
  have hS := hS0
  clear hS0
  generalize hLo : ([] : List Loc) = locs at hS ⊢
  refine lv_iload_n hx hb dL_call_0 rfl (lv_at hl 1 rfl) ?_
  refine bZT_ne (tgt := 17) hx hb dL_call_1 (by decide) (by decide) ?_
  refine lv_iload_n hx hb dL_call_17 rfl (lv_at hl 1 rfl) ?_
  refine lv_iconst (v := nI 1) hx hb dL_call_18 (by decide) ?_
  refine bIT_ne (tgt := 35) hx hb dL_call_19 (by decide) (by decide) ?_
  refine lv_iload_n hx hb dL_call_35 rfl (lv_at hl 1 rfl) ?_
  refine lv_iconst (v := nI 2) hx hb dL_call_36 (by decide) ?_
  refine bIT_ne (tgt := 48) hx hb dL_call_37 (by decide) (by decide) ?_
  refine lv_iload_n hx hb dL_call_48 rfl (lv_at hl 1 rfl) ?_
  refine lv_iconst (v := nI 3) hx hb dL_call_49 (by decide) ?_
  refine bIT_ne (tgt := 64) hx hb dL_call_50 (by decide) (by decide) ?_
  refine lv_iload_n hx hb dL_call_64 rfl (lv_at hl 1 rfl) ?_
  refine lv_iconst (v := nI 4) hx hb dL_call_65 (by decide) ?_
  refine bIT_ne (tgt := 82) hx hb dL_call_66 (by decide) (by decide) ?_
  refine lv_iload_n hx hb dL_call_82 rfl (lv_at hl 1 rfl) ?_
  refine lv_iconst (v := nI 5) hx hb dL_call_83 (by decide) ?_
  refine bIT_ne (tgt := 95) hx hb dL_call_84 (by decide) (by decide) ?_
  refine lv_iload_n hx hb dL_call_95 rfl (lv_at hl 1 rfl) ?_
  refine lv_bipush (v := nI 6) hx hb dL_call_96 (by decide) ?_
  refine bIT_ne (tgt := 109) hx hb dL_call_98 (by decide) (by decide) ?_
  refine lv_iload_n hx hb dL_call_109 rfl (lv_at hl 1 rfl) ?_
  refine lv_bipush (v := nI 7) hx hb dL_call_110 (by decide) ?_
  refine bIT_ne (tgt := 123) hx hb dL_call_112 (by decide) (by decide) ?_
  refine lv_iload_n hx hb dL_call_123 rfl (lv_at hl 1 rfl) ?_
  refine lv_bipush (v := nI 8) hx hb dL_call_124 (by decide) ?_
  refine bIT_ne (tgt := 136) hx hb dL_call_126 (by decide) (by decide) ?_
  refine lv_iload_n hx hb dL_call_136 rfl (lv_at hl 1 rfl) ?_
  refine lv_bipush (v := nI 9) hx hb dL_call_137 (by decide) ?_
  refine bIT_ne (tgt := 149) hx hb dL_call_139 (by decide) (by decide) ?_
  refine lv_iload_n hx hb dL_call_149 rfl (lv_at hl 1 rfl) ?_
  refine lv_bipush (v := nI 10) hx hb dL_call_150 (by decide) ?_
  refine bIT_ne (tgt := 163) hx hb dL_call_152 (by decide) (by decide) ?_
  refine lv_iload_n hx hb dL_call_163 rfl (lv_at hl 1 rfl) ?_
  refine lv_bipush (v := nI 11) hx hb dL_call_164 (by decide) ?_
  refine bIT_ne (tgt := 177) hx hb dL_call_166 (by decide) (by decide) ?_
  refine lv_iload_n hx hb dL_call_177 rfl (lv_at hl 1 rfl) ?_
  refine lv_bipush (v := nI 17) hx hb dL_call_178 (by decide) ?_
  refine bIF_ge (tgt := 193) hx hb dL_call_180 (by decide) (by decide) ?_
  refine lv_aload_n hx hb dL_call_183 rfl (lv_at hl 0 rfl) ?_
  refine lv_iload_n hx hb dL_call_184 rfl (lv_at hl 1 rfl) ?_
  refine lv_iload_n hx hb dL_call_185 rfl (lv_at hl 2 rfl) ?_
  refine lv_iload_n hx hb dL_call_186 rfl (lv_at hl 3 rfl) ?_
  rcases h with ⟨rm, mc, ms, hb1, hM⟩ | ⟨E, rm, mc, ms, hb1, rfl, hE, hM⟩
  · refine lqS (own := RL) (index := 51) (bytes := cL_cell) (n := 4) (As := [.int (nI 15), .int a, .int b]) (rest := []) (c2 := 4) (s2 := 528) F hZ hM hC gL_call_L_cell rfl rfl hb1.1 hb1.2.1 (by decide +kernel) rfl ⟨by have h9 := hb1.2.2.2.2.1; show rm.frames + 1 ≤ 9; omega, by have h9 := hb1.2.2.2.2.2; show 8 + (4 + 11) + rm.locals ≤ 230; omega⟩ hP hD hS rfl hl.1 (Nat.le_of_ble_eq_true rfl) dL_call_187 ⟨by have h9 := hb1.2.2.1; omega, by have h9 := hb1.2.2.2.1; omega⟩ ⟨Nat.le_of_ble_eq_true rfl, Nat.le_of_ble_eq_true rfl⟩ (fun u H locs hC hP hD hS => ?_)
    refine lv_goto (tgt := 227) hx hb dL_call_190 (by decide) ?_
    exact gRi F dL_call_227 rfl u ⟨rfl, hC⟩ (gPl hP) (gDl hD) hS (Nat.le_of_ble_eq_true rfl) (Nat.le_of_ble_eq_true rfl)
  · obtain ⟨fs, h0⟩ := cl_recv hC
    refine gXrun F (gRunSx (own := RL) (bytes := cL_cell) (n := 4) (As := [.ref lq, .int (nI 15), .int a, .int b]) (rest := []) F hZ hS (hM wv hC H.size) gL_call_L_cell rfl rfl hb1.1 hb1.2.1 (by decide +kernel) rfl ⟨by have h9 := hb1.2.2.2.2.1; show rm.frames + 1 ≤ 9; omega, by have h9 := hb1.2.2.2.2.2; show 8 + (4 + 11) + rm.locals ≤ 230; omega⟩ hP hD (lit := wv) (wt := []) (wc := wv) (isC := List.range wv.length) (gRange wv) (gRange_nd _) rfl hl.1 (Nat.le_of_ble_eq_true rfl) dL_call_187 ⟨by have h9 := hb1.2.2.1; show 0 + mc ≤ 4; omega, by have h9 := hb1.2.2.2.1; show 0 + ms ≤ 528; omega⟩) hP hD hS (lit := wv) (wt := []) (wc := wv) (isC := List.range wv.length) (wr := []) (isR := []) (gRange wv) rfl rfl (fun _ h_ => by cases h_) (fun ce q9 u H locs hp hP hD hS hce hcv hcl => ?_)
    have hP : va_P G.1 vwCl (u ++ []) H := hP
    have hD : va_D A (u ++ []) := hD
    rcases hE with ⟨rfl, rfl⟩ | ⟨rfl, rfl⟩ | ⟨rfl, rfl⟩
    · refine vx_catch (own := RL) (name := gIO) (E := gIO) F.2.2.2.2.2.1 [] ⟨0, 227, 228, 66⟩ [⟨0, 227, 234, 68⟩, ⟨0, 227, 240, 70⟩] (by rw [htb]; rfl) (fun _ h_ => by cases h_) rfl (by decide) (F.2.2.2.2.2.2.1 (.classLink RL 66 gIO) (by decide +kernel)) (va_Nw.use rfl (hKK.2.2.2.2.2.1 (gIO, gIO) (by decide +kernel))) hce hcv hcl ?_
      refine lv_astore (lv' := [(6, .ref q9), (0, .ref lq), (1, .int (nI 15)), (2, .int a), (3, .int b), (4, .int cv), (5, .int dv)]) hx hb dL_call_228 hl (by decide) rfl (fun ls hl => ?_)
      refine lv_sipush (v := zI (-2011)) hx hb dL_call_230 (by decide) ?_
      exact gRi F dL_call_233 rfl u ⟨rfl, hp⟩ (gPl hP) (gDl hD) hS (by have h9 := hb1.2.2.1; omega) (by have h9 := hb1.2.2.2.1; omega)
    · refine vx_catch (own := RL) (name := gIA) (E := gIA) F.2.2.2.2.2.1 [⟨0, 227, 228, 66⟩] ⟨0, 227, 234, 68⟩ [⟨0, 227, 240, 70⟩] (by rw [htb]; rfl) (List.forall_mem_cons.mpr ⟨Or.inr ⟨by decide, gIO, F.2.2.2.2.2.2.1 (.classLink RL 66 gIO) (by decide +kernel), hKK.2.2.2.2.2.2.1 (gIA, gIO) (by decide +kernel)⟩, fun _ h_ => by cases h_⟩) rfl (by decide) (F.2.2.2.2.2.2.1 (.classLink RL 68 gIA) (by decide +kernel)) (va_Nw.use rfl (hKK.2.2.2.2.2.1 (gIA, gIA) (by decide +kernel))) hce hcv hcl ?_
      refine lv_astore (lv' := [(6, .ref q9), (0, .ref lq), (1, .int (nI 15)), (2, .int a), (3, .int b), (4, .int cv), (5, .int dv)]) hx hb dL_call_234 hl (by decide) rfl (fun ls hl => ?_)
      refine lv_sipush (v := zI (-2012)) hx hb dL_call_236 (by decide) ?_
      exact gRi F dL_call_239 rfl u ⟨rfl, hp⟩ (gPl hP) (gDl hD) hS (by have h9 := hb1.2.2.1; omega) (by have h9 := hb1.2.2.2.1; omega)
    · refine vx_catch (own := RL) (name := gIS) (E := gIS) F.2.2.2.2.2.1 [⟨0, 227, 228, 66⟩, ⟨0, 227, 234, 68⟩] ⟨0, 227, 240, 70⟩ [] (by rw [htb]; rfl) (List.forall_mem_cons.mpr ⟨Or.inr ⟨by decide, gIO, F.2.2.2.2.2.2.1 (.classLink RL 66 gIO) (by decide +kernel), hKK.2.2.2.2.2.2.1 (gIS, gIO) (by decide +kernel)⟩, List.forall_mem_cons.mpr ⟨Or.inr ⟨by decide, gIA, F.2.2.2.2.2.2.1 (.classLink RL 68 gIA) (by decide +kernel), hKK.2.2.2.2.2.2.1 (gIS, gIA) (by decide +kernel)⟩, fun _ h_ => by cases h_⟩⟩) rfl (by decide) (F.2.2.2.2.2.2.1 (.classLink RL 70 gIS) (by decide +kernel)) (va_Nw.use rfl (hKK.2.2.2.2.2.1 (gIS, gIS) (by decide +kernel))) hce hcv hcl ?_
      refine lv_astore (lv' := [(6, .ref q9), (0, .ref lq), (1, .int (nI 15)), (2, .int a), (3, .int b), (4, .int cv), (5, .int dv)]) hx hb dL_call_240 hl (by decide) rfl (fun ls hl => ?_)
      refine lv_sipush (v := zI (-2013)) hx hb dL_call_242 (by decide) ?_
      exact gRi F dL_call_245 rfl u ⟨rfl, hp⟩ (gPl hP) (gDl hD) hS (by have h9 := hb1.2.2.1; omega) (by have h9 := hb1.2.2.2.1; omega)

set_option maxHeartbeats 4000000 in
set_option maxRecDepth 100000 in
theorem call_16 (l : Launch) (G : gG) (lq : Nat) (S S' : SpT) (a b cv dv : Int32) (r : Int) (h : DoS l G lq yL_cell wsL_cell [.int (nI 16), .int a, .int b] S r S') : LW l G lq yL_call wsL_call { frames := 9, cells := 4, slots := 528, locals := 230 } [.int (nI 16), .int a, .int b, .int cv, .int dv] S (zI r) S' 4 528 := by
  intro wv hC
  refine gMw_mk (cc := cL_call) (nL := 7) (ret := some .int) (hh := [(0, 227, 228, 66), (0, 227, 234, 68), (0, 227, 240, 70)]) (Qc := fun A => va_Qi (S := va_W) (fun r' u => r' = zI r ∧ clS G lq u S') (gB G A (fun u => u)) A) (by decide) rfl (Nat.le_of_ble_eq_true rfl) ?_
  intro p e s m args below meth c A F htb hZ ls hl hP hD hS
  have hx := F.1
  have hb := F.2.1
  have hts := F.2.2.2.2.2.2.1
  have hKK := F.2.2.2.2.2.2.2.2.1
  have hl : lv_has ls 7 [(0, .ref lq), (1, .int (nI 16)), (2, .int a), (3, .int b), (4, .int cv), (5, .int dv)] := hl
  have hP : va_P G.1 vwCl (wv ++ []) s.heap := by rw [List.append_nil]; exact hP
  have hD : va_D A (wv ++ []) := by rw [List.append_nil]; exact hD
  generalize hH : s.heap = H at hP ⊢
  have hS0 : va_S A s.heap H [] := by rw [← hH]; exact va_S.rf
  clear hS
  have hS := hS0
  clear hS0
  generalize hLo : ([] : List Loc) = locs at hS ⊢
  refine lv_iload_n hx hb dL_call_0 rfl (lv_at hl 1 rfl) ?_
  refine bZT_ne (tgt := 17) hx hb dL_call_1 (by decide) (by decide) ?_
  refine lv_iload_n hx hb dL_call_17 rfl (lv_at hl 1 rfl) ?_
  refine lv_iconst (v := nI 1) hx hb dL_call_18 (by decide) ?_
  refine bIT_ne (tgt := 35) hx hb dL_call_19 (by decide) (by decide) ?_
  refine lv_iload_n hx hb dL_call_35 rfl (lv_at hl 1 rfl) ?_
  refine lv_iconst (v := nI 2) hx hb dL_call_36 (by decide) ?_
  refine bIT_ne (tgt := 48) hx hb dL_call_37 (by decide) (by decide) ?_
  refine lv_iload_n hx hb dL_call_48 rfl (lv_at hl 1 rfl) ?_
  refine lv_iconst (v := nI 3) hx hb dL_call_49 (by decide) ?_
  refine bIT_ne (tgt := 64) hx hb dL_call_50 (by decide) (by decide) ?_
  refine lv_iload_n hx hb dL_call_64 rfl (lv_at hl 1 rfl) ?_
  refine lv_iconst (v := nI 4) hx hb dL_call_65 (by decide) ?_
  refine bIT_ne (tgt := 82) hx hb dL_call_66 (by decide) (by decide) ?_
  refine lv_iload_n hx hb dL_call_82 rfl (lv_at hl 1 rfl) ?_
  refine lv_iconst (v := nI 5) hx hb dL_call_83 (by decide) ?_
  refine bIT_ne (tgt := 95) hx hb dL_call_84 (by decide) (by decide) ?_
  refine lv_iload_n hx hb dL_call_95 rfl (lv_at hl 1 rfl) ?_
  refine lv_bipush (v := nI 6) hx hb dL_call_96 (by decide) ?_
  refine bIT_ne (tgt := 109) hx hb dL_call_98 (by decide) (by decide) ?_
  refine lv_iload_n hx hb dL_call_109 rfl (lv_at hl 1 rfl) ?_
  refine lv_bipush (v := nI 7) hx hb dL_call_110 (by decide) ?_
  refine bIT_ne (tgt := 123) hx hb dL_call_112 (by decide) (by decide) ?_
  refine lv_iload_n hx hb dL_call_123 rfl (lv_at hl 1 rfl) ?_
  refine lv_bipush (v := nI 8) hx hb dL_call_124 (by decide) ?_
  refine bIT_ne (tgt := 136) hx hb dL_call_126 (by decide) (by decide) ?_
  refine lv_iload_n hx hb dL_call_136 rfl (lv_at hl 1 rfl) ?_
  refine lv_bipush (v := nI 9) hx hb dL_call_137 (by decide) ?_
  refine bIT_ne (tgt := 149) hx hb dL_call_139 (by decide) (by decide) ?_
  refine lv_iload_n hx hb dL_call_149 rfl (lv_at hl 1 rfl) ?_
  refine lv_bipush (v := nI 10) hx hb dL_call_150 (by decide) ?_
  refine bIT_ne (tgt := 163) hx hb dL_call_152 (by decide) (by decide) ?_
  refine lv_iload_n hx hb dL_call_163 rfl (lv_at hl 1 rfl) ?_
  refine lv_bipush (v := nI 11) hx hb dL_call_164 (by decide) ?_
  refine bIT_ne (tgt := 177) hx hb dL_call_166 (by decide) (by decide) ?_
  refine lv_iload_n hx hb dL_call_177 rfl (lv_at hl 1 rfl) ?_
  refine lv_bipush (v := nI 17) hx hb dL_call_178 (by decide) ?_
  refine bIF_ge (tgt := 193) hx hb dL_call_180 (by decide) (by decide) ?_
  refine lv_aload_n hx hb dL_call_183 rfl (lv_at hl 0 rfl) ?_
  refine lv_iload_n hx hb dL_call_184 rfl (lv_at hl 1 rfl) ?_
  refine lv_iload_n hx hb dL_call_185 rfl (lv_at hl 2 rfl) ?_
  refine lv_iload_n hx hb dL_call_186 rfl (lv_at hl 3 rfl) ?_
  rcases h with ⟨rm, mc, ms, hb1, hM⟩ | ⟨E, rm, mc, ms, hb1, rfl, hE, hM⟩
  · refine lqS (own := RL) (index := 51) (bytes := cL_cell) (n := 4) (As := [.int (nI 16), .int a, .int b]) (rest := []) (c2 := 4) (s2 := 528) F hZ hM hC gL_call_L_cell rfl rfl hb1.1 hb1.2.1 (by decide +kernel) rfl ⟨by have h9 := hb1.2.2.2.2.1; show rm.frames + 1 ≤ 9; omega, by have h9 := hb1.2.2.2.2.2; show 8 + (4 + 11) + rm.locals ≤ 230; omega⟩ hP hD hS rfl hl.1 (Nat.le_of_ble_eq_true rfl) dL_call_187 ⟨by have h9 := hb1.2.2.1; omega, by have h9 := hb1.2.2.2.1; omega⟩ ⟨Nat.le_of_ble_eq_true rfl, Nat.le_of_ble_eq_true rfl⟩ (fun u H locs hC hP hD hS => ?_)
    refine lv_goto (tgt := 227) hx hb dL_call_190 (by decide) ?_
    exact gRi F dL_call_227 rfl u ⟨rfl, hC⟩ (gPl hP) (gDl hD) hS (Nat.le_of_ble_eq_true rfl) (Nat.le_of_ble_eq_true rfl)
  · obtain ⟨fs, h0⟩ := cl_recv hC
    refine gXrun F (gRunSx (own := RL) (bytes := cL_cell) (n := 4) (As := [.ref lq, .int (nI 16), .int a, .int b]) (rest := []) F hZ hS (hM wv hC H.size) gL_call_L_cell rfl rfl hb1.1 hb1.2.1 (by decide +kernel) rfl ⟨by have h9 := hb1.2.2.2.2.1; show rm.frames + 1 ≤ 9; omega, by have h9 := hb1.2.2.2.2.2; show 8 + (4 + 11) + rm.locals ≤ 230; omega⟩ hP hD (lit := wv) (wt := []) (wc := wv) (isC := List.range wv.length) (gRange wv) (gRange_nd _) rfl hl.1 (Nat.le_of_ble_eq_true rfl) dL_call_187 ⟨by have h9 := hb1.2.2.1; show 0 + mc ≤ 4; omega, by have h9 := hb1.2.2.2.1; show 0 + ms ≤ 528; omega⟩) hP hD hS (lit := wv) (wt := []) (wc := wv) (isC := List.range wv.length) (wr := []) (isR := []) (gRange wv) rfl rfl (fun _ h_ => by cases h_) (fun ce q9 u H locs hp hP hD hS hce hcv hcl => ?_)
    have hP : va_P G.1 vwCl (u ++ []) H := hP
    have hD : va_D A (u ++ []) := hD
    rcases hE with ⟨rfl, rfl⟩ | ⟨rfl, rfl⟩ | ⟨rfl, rfl⟩
    · refine vx_catch (own := RL) (name := gIO) (E := gIO) F.2.2.2.2.2.1 [] ⟨0, 227, 228, 66⟩ [⟨0, 227, 234, 68⟩, ⟨0, 227, 240, 70⟩] (by rw [htb]; rfl) (fun _ h_ => by cases h_) rfl (by decide) (F.2.2.2.2.2.2.1 (.classLink RL 66 gIO) (by decide +kernel)) (va_Nw.use rfl (hKK.2.2.2.2.2.1 (gIO, gIO) (by decide +kernel))) hce hcv hcl ?_
      refine lv_astore (lv' := [(6, .ref q9), (0, .ref lq), (1, .int (nI 16)), (2, .int a), (3, .int b), (4, .int cv), (5, .int dv)]) hx hb dL_call_228 hl (by decide) rfl (fun ls hl => ?_)
      refine lv_sipush (v := zI (-2011)) hx hb dL_call_230 (by decide) ?_
      exact gRi F dL_call_233 rfl u ⟨rfl, hp⟩ (gPl hP) (gDl hD) hS (by have h9 := hb1.2.2.1; omega) (by have h9 := hb1.2.2.2.1; omega)
    · refine vx_catch (own := RL) (name := gIA) (E := gIA) F.2.2.2.2.2.1 [⟨0, 227, 228, 66⟩] ⟨0, 227, 234, 68⟩ [⟨0, 227, 240, 70⟩] (by rw [htb]; rfl) (List.forall_mem_cons.mpr ⟨Or.inr ⟨by decide, gIO, F.2.2.2.2.2.2.1 (.classLink RL 66 gIO) (by decide +kernel), hKK.2.2.2.2.2.2.1 (gIA, gIO) (by decide +kernel)⟩, fun _ h_ => by cases h_⟩) rfl (by decide) (F.2.2.2.2.2.2.1 (.classLink RL 68 gIA) (by decide +kernel)) (va_Nw.use rfl (hKK.2.2.2.2.2.1 (gIA, gIA) (by decide +kernel))) hce hcv hcl ?_
      refine lv_astore (lv' := [(6, .ref q9), (0, .ref lq), (1, .int (nI 16)), (2, .int a), (3, .int b), (4, .int cv), (5, .int dv)]) hx hb dL_call_234 hl (by decide) rfl (fun ls hl => ?_)
      refine lv_sipush (v := zI (-2012)) hx hb dL_call_236 (by decide) ?_
      exact gRi F dL_call_239 rfl u ⟨rfl, hp⟩ (gPl hP) (gDl hD) hS (by have h9 := hb1.2.2.1; omega) (by have h9 := hb1.2.2.2.1; omega)
    · refine vx_catch (own := RL) (name := gIS) (E := gIS) F.2.2.2.2.2.1 [⟨0, 227, 228, 66⟩, ⟨0, 227, 234, 68⟩] ⟨0, 227, 240, 70⟩ [] (by rw [htb]; rfl) (List.forall_mem_cons.mpr ⟨Or.inr ⟨by decide, gIO, F.2.2.2.2.2.2.1 (.classLink RL 66 gIO) (by decide +kernel), hKK.2.2.2.2.2.2.1 (gIS, gIO) (by decide +kernel)⟩, List.forall_mem_cons.mpr ⟨Or.inr ⟨by decide, gIA, F.2.2.2.2.2.2.1 (.classLink RL 68 gIA) (by decide +kernel), hKK.2.2.2.2.2.2.1 (gIS, gIA) (by decide +kernel)⟩, fun _ h_ => by cases h_⟩⟩) rfl (by decide) (F.2.2.2.2.2.2.1 (.classLink RL 70 gIS) (by decide +kernel)) (va_Nw.use rfl (hKK.2.2.2.2.2.1 (gIS, gIS) (by decide +kernel))) hce hcv hcl ?_
      refine lv_astore (lv' := [(6, .ref q9), (0, .ref lq), (1, .int (nI 16)), (2, .int a), (3, .int b), (4, .int cv), (5, .int dv)]) hx hb dL_call_240 hl (by decide) rfl (fun ls hl => ?_)
      refine lv_sipush (v := zI (-2013)) hx hb dL_call_242 (by decide) ?_
      exact gRi F dL_call_245 rfl u ⟨rfl, hp⟩ (gPl hP) (gDl hD) hS (by have h9 := hb1.2.2.1; omega) (by have h9 := hb1.2.2.2.1; omega)

set_option maxHeartbeats 4000000 in
set_option maxRecDepth 100000 in
theorem call_17 (l : Launch) (G : gG) (lq : Nat) (S S' : SpT) (a b cv dv : Int32) (r : Int) (h : DoS l G lq yL_owned wsL_owned [.int (nI 17), .int a, .int b] S r S') : LW l G lq yL_call wsL_call { frames := 9, cells := 4, slots := 528, locals := 230 } [.int (nI 17), .int a, .int b, .int cv, .int dv] S (zI r) S' 4 528 := by
  intro wv hC
  refine gMw_mk (cc := cL_call) (nL := 7) (ret := some .int) (hh := [(0, 227, 228, 66), (0, 227, 234, 68), (0, 227, 240, 70)]) (Qc := fun A => va_Qi (S := va_W) (fun r' u => r' = zI r ∧ clS G lq u S') (gB G A (fun u => u)) A) (by decide) rfl (Nat.le_of_ble_eq_true rfl) ?_
  intro p e s m args below meth c A F htb hZ ls hl hP hD hS
  have hx := F.1
  have hb := F.2.1
  have hts := F.2.2.2.2.2.2.1
  have hKK := F.2.2.2.2.2.2.2.2.1
  have hl : lv_has ls 7 [(0, .ref lq), (1, .int (nI 17)), (2, .int a), (3, .int b), (4, .int cv), (5, .int dv)] := hl
  have hP : va_P G.1 vwCl (wv ++ []) s.heap := by rw [List.append_nil]; exact hP
  have hD : va_D A (wv ++ []) := by rw [List.append_nil]; exact hD
  generalize hH : s.heap = H at hP ⊢
  have hS0 : va_S A s.heap H [] := by rw [← hH]; exact va_S.rf
  clear hS
  have hS := hS0
  clear hS0
  generalize hLo : ([] : List Loc) = locs at hS ⊢
  refine lv_iload_n hx hb dL_call_0 rfl (lv_at hl 1 rfl) ?_
  refine bZT_ne (tgt := 17) hx hb dL_call_1 (by decide) (by decide) ?_
  refine lv_iload_n hx hb dL_call_17 rfl (lv_at hl 1 rfl) ?_
  refine lv_iconst (v := nI 1) hx hb dL_call_18 (by decide) ?_
  refine bIT_ne (tgt := 35) hx hb dL_call_19 (by decide) (by decide) ?_
  refine lv_iload_n hx hb dL_call_35 rfl (lv_at hl 1 rfl) ?_
  refine lv_iconst (v := nI 2) hx hb dL_call_36 (by decide) ?_
  refine bIT_ne (tgt := 48) hx hb dL_call_37 (by decide) (by decide) ?_
  refine lv_iload_n hx hb dL_call_48 rfl (lv_at hl 1 rfl) ?_
  refine lv_iconst (v := nI 3) hx hb dL_call_49 (by decide) ?_
  refine bIT_ne (tgt := 64) hx hb dL_call_50 (by decide) (by decide) ?_
  refine lv_iload_n hx hb dL_call_64 rfl (lv_at hl 1 rfl) ?_
  refine lv_iconst (v := nI 4) hx hb dL_call_65 (by decide) ?_
  refine bIT_ne (tgt := 82) hx hb dL_call_66 (by decide) (by decide) ?_
  refine lv_iload_n hx hb dL_call_82 rfl (lv_at hl 1 rfl) ?_
  refine lv_iconst (v := nI 5) hx hb dL_call_83 (by decide) ?_
  refine bIT_ne (tgt := 95) hx hb dL_call_84 (by decide) (by decide) ?_
  refine lv_iload_n hx hb dL_call_95 rfl (lv_at hl 1 rfl) ?_
  refine lv_bipush (v := nI 6) hx hb dL_call_96 (by decide) ?_
  refine bIT_ne (tgt := 109) hx hb dL_call_98 (by decide) (by decide) ?_
  refine lv_iload_n hx hb dL_call_109 rfl (lv_at hl 1 rfl) ?_
  refine lv_bipush (v := nI 7) hx hb dL_call_110 (by decide) ?_
  refine bIT_ne (tgt := 123) hx hb dL_call_112 (by decide) (by decide) ?_
  refine lv_iload_n hx hb dL_call_123 rfl (lv_at hl 1 rfl) ?_
  refine lv_bipush (v := nI 8) hx hb dL_call_124 (by decide) ?_
  refine bIT_ne (tgt := 136) hx hb dL_call_126 (by decide) (by decide) ?_
  refine lv_iload_n hx hb dL_call_136 rfl (lv_at hl 1 rfl) ?_
  refine lv_bipush (v := nI 9) hx hb dL_call_137 (by decide) ?_
  refine bIT_ne (tgt := 149) hx hb dL_call_139 (by decide) (by decide) ?_
  refine lv_iload_n hx hb dL_call_149 rfl (lv_at hl 1 rfl) ?_
  refine lv_bipush (v := nI 10) hx hb dL_call_150 (by decide) ?_
  refine bIT_ne (tgt := 163) hx hb dL_call_152 (by decide) (by decide) ?_
  refine lv_iload_n hx hb dL_call_163 rfl (lv_at hl 1 rfl) ?_
  refine lv_bipush (v := nI 11) hx hb dL_call_164 (by decide) ?_
  refine bIT_ne (tgt := 177) hx hb dL_call_166 (by decide) (by decide) ?_
  refine lv_iload_n hx hb dL_call_177 rfl (lv_at hl 1 rfl) ?_
  refine lv_bipush (v := nI 17) hx hb dL_call_178 (by decide) ?_
  refine bIT_ge (tgt := 193) hx hb dL_call_180 (by decide) (by decide) ?_
  refine lv_iload_n hx hb dL_call_193 rfl (lv_at hl 1 rfl) ?_
  refine lv_bipush (v := nI 29) hx hb dL_call_194 (by decide) ?_
  refine bIF_ge (tgt := 209) hx hb dL_call_196 (by decide) (by decide) ?_
  refine lv_aload_n hx hb dL_call_199 rfl (lv_at hl 0 rfl) ?_
  refine lv_iload_n hx hb dL_call_200 rfl (lv_at hl 1 rfl) ?_
  refine lv_iload_n hx hb dL_call_201 rfl (lv_at hl 2 rfl) ?_
  refine lv_iload_n hx hb dL_call_202 rfl (lv_at hl 3 rfl) ?_
  rcases h with ⟨rm, mc, ms, hb1, hM⟩ | ⟨E, rm, mc, ms, hb1, rfl, hE, hM⟩
  · refine lqS (own := RL) (index := 57) (bytes := cL_owned) (n := 4) (As := [.int (nI 17), .int a, .int b]) (rest := []) (c2 := 4) (s2 := 528) F hZ hM hC gL_call_L_owned rfl rfl hb1.1 hb1.2.1 (by decide +kernel) rfl ⟨by have h9 := hb1.2.2.2.2.1; show rm.frames + 1 ≤ 9; omega, by have h9 := hb1.2.2.2.2.2; show 8 + (4 + 11) + rm.locals ≤ 230; omega⟩ hP hD hS rfl hl.1 (Nat.le_of_ble_eq_true rfl) dL_call_203 ⟨by have h9 := hb1.2.2.1; omega, by have h9 := hb1.2.2.2.1; omega⟩ ⟨Nat.le_of_ble_eq_true rfl, Nat.le_of_ble_eq_true rfl⟩ (fun u H locs hC hP hD hS => ?_)
    refine lv_goto (tgt := 227) hx hb dL_call_206 (by decide) ?_
    exact gRi F dL_call_227 rfl u ⟨rfl, hC⟩ (gPl hP) (gDl hD) hS (Nat.le_of_ble_eq_true rfl) (Nat.le_of_ble_eq_true rfl)
  · obtain ⟨fs, h0⟩ := cl_recv hC
    refine gXrun F (gRunSx (own := RL) (bytes := cL_owned) (n := 4) (As := [.ref lq, .int (nI 17), .int a, .int b]) (rest := []) F hZ hS (hM wv hC H.size) gL_call_L_owned rfl rfl hb1.1 hb1.2.1 (by decide +kernel) rfl ⟨by have h9 := hb1.2.2.2.2.1; show rm.frames + 1 ≤ 9; omega, by have h9 := hb1.2.2.2.2.2; show 8 + (4 + 11) + rm.locals ≤ 230; omega⟩ hP hD (lit := wv) (wt := []) (wc := wv) (isC := List.range wv.length) (gRange wv) (gRange_nd _) rfl hl.1 (Nat.le_of_ble_eq_true rfl) dL_call_203 ⟨by have h9 := hb1.2.2.1; show 0 + mc ≤ 4; omega, by have h9 := hb1.2.2.2.1; show 0 + ms ≤ 528; omega⟩) hP hD hS (lit := wv) (wt := []) (wc := wv) (isC := List.range wv.length) (wr := []) (isR := []) (gRange wv) rfl rfl (fun _ h_ => by cases h_) (fun ce q9 u H locs hp hP hD hS hce hcv hcl => ?_)
    have hP : va_P G.1 vwCl (u ++ []) H := hP
    have hD : va_D A (u ++ []) := hD
    rcases hE with ⟨rfl, rfl⟩ | ⟨rfl, rfl⟩ | ⟨rfl, rfl⟩
    · refine vx_catch (own := RL) (name := gIO) (E := gIO) F.2.2.2.2.2.1 [] ⟨0, 227, 228, 66⟩ [⟨0, 227, 234, 68⟩, ⟨0, 227, 240, 70⟩] (by rw [htb]; rfl) (fun _ h_ => by cases h_) rfl (by decide) (F.2.2.2.2.2.2.1 (.classLink RL 66 gIO) (by decide +kernel)) (va_Nw.use rfl (hKK.2.2.2.2.2.1 (gIO, gIO) (by decide +kernel))) hce hcv hcl ?_
      refine lv_astore (lv' := [(6, .ref q9), (0, .ref lq), (1, .int (nI 17)), (2, .int a), (3, .int b), (4, .int cv), (5, .int dv)]) hx hb dL_call_228 hl (by decide) rfl (fun ls hl => ?_)
      refine lv_sipush (v := zI (-2011)) hx hb dL_call_230 (by decide) ?_
      exact gRi F dL_call_233 rfl u ⟨rfl, hp⟩ (gPl hP) (gDl hD) hS (by have h9 := hb1.2.2.1; omega) (by have h9 := hb1.2.2.2.1; omega)
    · refine vx_catch (own := RL) (name := gIA) (E := gIA) F.2.2.2.2.2.1 [⟨0, 227, 228, 66⟩] ⟨0, 227, 234, 68⟩ [⟨0, 227, 240, 70⟩] (by rw [htb]; rfl) (List.forall_mem_cons.mpr ⟨Or.inr ⟨by decide, gIO, F.2.2.2.2.2.2.1 (.classLink RL 66 gIO) (by decide +kernel), hKK.2.2.2.2.2.2.1 (gIA, gIO) (by decide +kernel)⟩, fun _ h_ => by cases h_⟩) rfl (by decide) (F.2.2.2.2.2.2.1 (.classLink RL 68 gIA) (by decide +kernel)) (va_Nw.use rfl (hKK.2.2.2.2.2.1 (gIA, gIA) (by decide +kernel))) hce hcv hcl ?_
      refine lv_astore (lv' := [(6, .ref q9), (0, .ref lq), (1, .int (nI 17)), (2, .int a), (3, .int b), (4, .int cv), (5, .int dv)]) hx hb dL_call_234 hl (by decide) rfl (fun ls hl => ?_)
      refine lv_sipush (v := zI (-2012)) hx hb dL_call_236 (by decide) ?_
      exact gRi F dL_call_239 rfl u ⟨rfl, hp⟩ (gPl hP) (gDl hD) hS (by have h9 := hb1.2.2.1; omega) (by have h9 := hb1.2.2.2.1; omega)
    · refine vx_catch (own := RL) (name := gIS) (E := gIS) F.2.2.2.2.2.1 [⟨0, 227, 228, 66⟩, ⟨0, 227, 234, 68⟩] ⟨0, 227, 240, 70⟩ [] (by rw [htb]; rfl) (List.forall_mem_cons.mpr ⟨Or.inr ⟨by decide, gIO, F.2.2.2.2.2.2.1 (.classLink RL 66 gIO) (by decide +kernel), hKK.2.2.2.2.2.2.1 (gIS, gIO) (by decide +kernel)⟩, List.forall_mem_cons.mpr ⟨Or.inr ⟨by decide, gIA, F.2.2.2.2.2.2.1 (.classLink RL 68 gIA) (by decide +kernel), hKK.2.2.2.2.2.2.1 (gIS, gIA) (by decide +kernel)⟩, fun _ h_ => by cases h_⟩⟩) rfl (by decide) (F.2.2.2.2.2.2.1 (.classLink RL 70 gIS) (by decide +kernel)) (va_Nw.use rfl (hKK.2.2.2.2.2.1 (gIS, gIS) (by decide +kernel))) hce hcv hcl ?_
      refine lv_astore (lv' := [(6, .ref q9), (0, .ref lq), (1, .int (nI 17)), (2, .int a), (3, .int b), (4, .int cv), (5, .int dv)]) hx hb dL_call_240 hl (by decide) rfl (fun ls hl => ?_)
      refine lv_sipush (v := zI (-2013)) hx hb dL_call_242 (by decide) ?_
      exact gRi F dL_call_245 rfl u ⟨rfl, hp⟩ (gPl hP) (gDl hD) hS (by have h9 := hb1.2.2.1; omega) (by have h9 := hb1.2.2.2.1; omega)

set_option maxHeartbeats 4000000 in
set_option maxRecDepth 100000 in
theorem call_18 (l : Launch) (G : gG) (lq : Nat) (S S' : SpT) (a b cv dv : Int32) (r : Int) (h : DoS l G lq yL_owned wsL_owned [.int (nI 18), .int a, .int b] S r S') : LW l G lq yL_call wsL_call { frames := 9, cells := 4, slots := 528, locals := 230 } [.int (nI 18), .int a, .int b, .int cv, .int dv] S (zI r) S' 4 528 := by
  intro wv hC
  refine gMw_mk (cc := cL_call) (nL := 7) (ret := some .int) (hh := [(0, 227, 228, 66), (0, 227, 234, 68), (0, 227, 240, 70)]) (Qc := fun A => va_Qi (S := va_W) (fun r' u => r' = zI r ∧ clS G lq u S') (gB G A (fun u => u)) A) (by decide) rfl (Nat.le_of_ble_eq_true rfl) ?_
  intro p e s m args below meth c A F htb hZ ls hl hP hD hS
  have hx := F.1
  have hb := F.2.1
  have hts := F.2.2.2.2.2.2.1
  have hKK := F.2.2.2.2.2.2.2.2.1
  have hl : lv_has ls 7 [(0, .ref lq), (1, .int (nI 18)), (2, .int a), (3, .int b), (4, .int cv), (5, .int dv)] := hl
  have hP : va_P G.1 vwCl (wv ++ []) s.heap := by rw [List.append_nil]; exact hP
  have hD : va_D A (wv ++ []) := by rw [List.append_nil]; exact hD
  generalize hH : s.heap = H at hP ⊢
  have hS0 : va_S A s.heap H [] := by rw [← hH]; exact va_S.rf
  clear hS
  have hS := hS0
  clear hS0
  generalize hLo : ([] : List Loc) = locs at hS ⊢
  refine lv_iload_n hx hb dL_call_0 rfl (lv_at hl 1 rfl) ?_
  refine bZT_ne (tgt := 17) hx hb dL_call_1 (by decide) (by decide) ?_
  refine lv_iload_n hx hb dL_call_17 rfl (lv_at hl 1 rfl) ?_
  refine lv_iconst (v := nI 1) hx hb dL_call_18 (by decide) ?_
  refine bIT_ne (tgt := 35) hx hb dL_call_19 (by decide) (by decide) ?_
  refine lv_iload_n hx hb dL_call_35 rfl (lv_at hl 1 rfl) ?_
  refine lv_iconst (v := nI 2) hx hb dL_call_36 (by decide) ?_
  refine bIT_ne (tgt := 48) hx hb dL_call_37 (by decide) (by decide) ?_
  refine lv_iload_n hx hb dL_call_48 rfl (lv_at hl 1 rfl) ?_
  refine lv_iconst (v := nI 3) hx hb dL_call_49 (by decide) ?_
  refine bIT_ne (tgt := 64) hx hb dL_call_50 (by decide) (by decide) ?_
  refine lv_iload_n hx hb dL_call_64 rfl (lv_at hl 1 rfl) ?_
  refine lv_iconst (v := nI 4) hx hb dL_call_65 (by decide) ?_
  refine bIT_ne (tgt := 82) hx hb dL_call_66 (by decide) (by decide) ?_
  refine lv_iload_n hx hb dL_call_82 rfl (lv_at hl 1 rfl) ?_
  refine lv_iconst (v := nI 5) hx hb dL_call_83 (by decide) ?_
  refine bIT_ne (tgt := 95) hx hb dL_call_84 (by decide) (by decide) ?_
  refine lv_iload_n hx hb dL_call_95 rfl (lv_at hl 1 rfl) ?_
  refine lv_bipush (v := nI 6) hx hb dL_call_96 (by decide) ?_
  refine bIT_ne (tgt := 109) hx hb dL_call_98 (by decide) (by decide) ?_
  refine lv_iload_n hx hb dL_call_109 rfl (lv_at hl 1 rfl) ?_
  refine lv_bipush (v := nI 7) hx hb dL_call_110 (by decide) ?_
  refine bIT_ne (tgt := 123) hx hb dL_call_112 (by decide) (by decide) ?_
  refine lv_iload_n hx hb dL_call_123 rfl (lv_at hl 1 rfl) ?_
  refine lv_bipush (v := nI 8) hx hb dL_call_124 (by decide) ?_
  refine bIT_ne (tgt := 136) hx hb dL_call_126 (by decide) (by decide) ?_
  refine lv_iload_n hx hb dL_call_136 rfl (lv_at hl 1 rfl) ?_
  refine lv_bipush (v := nI 9) hx hb dL_call_137 (by decide) ?_
  refine bIT_ne (tgt := 149) hx hb dL_call_139 (by decide) (by decide) ?_
  refine lv_iload_n hx hb dL_call_149 rfl (lv_at hl 1 rfl) ?_
  refine lv_bipush (v := nI 10) hx hb dL_call_150 (by decide) ?_
  refine bIT_ne (tgt := 163) hx hb dL_call_152 (by decide) (by decide) ?_
  refine lv_iload_n hx hb dL_call_163 rfl (lv_at hl 1 rfl) ?_
  refine lv_bipush (v := nI 11) hx hb dL_call_164 (by decide) ?_
  refine bIT_ne (tgt := 177) hx hb dL_call_166 (by decide) (by decide) ?_
  refine lv_iload_n hx hb dL_call_177 rfl (lv_at hl 1 rfl) ?_
  refine lv_bipush (v := nI 17) hx hb dL_call_178 (by decide) ?_
  refine bIT_ge (tgt := 193) hx hb dL_call_180 (by decide) (by decide) ?_
  refine lv_iload_n hx hb dL_call_193 rfl (lv_at hl 1 rfl) ?_
  refine lv_bipush (v := nI 29) hx hb dL_call_194 (by decide) ?_
  refine bIF_ge (tgt := 209) hx hb dL_call_196 (by decide) (by decide) ?_
  refine lv_aload_n hx hb dL_call_199 rfl (lv_at hl 0 rfl) ?_
  refine lv_iload_n hx hb dL_call_200 rfl (lv_at hl 1 rfl) ?_
  refine lv_iload_n hx hb dL_call_201 rfl (lv_at hl 2 rfl) ?_
  refine lv_iload_n hx hb dL_call_202 rfl (lv_at hl 3 rfl) ?_
  rcases h with ⟨rm, mc, ms, hb1, hM⟩ | ⟨E, rm, mc, ms, hb1, rfl, hE, hM⟩
  · refine lqS (own := RL) (index := 57) (bytes := cL_owned) (n := 4) (As := [.int (nI 18), .int a, .int b]) (rest := []) (c2 := 4) (s2 := 528) F hZ hM hC gL_call_L_owned rfl rfl hb1.1 hb1.2.1 (by decide +kernel) rfl ⟨by have h9 := hb1.2.2.2.2.1; show rm.frames + 1 ≤ 9; omega, by have h9 := hb1.2.2.2.2.2; show 8 + (4 + 11) + rm.locals ≤ 230; omega⟩ hP hD hS rfl hl.1 (Nat.le_of_ble_eq_true rfl) dL_call_203 ⟨by have h9 := hb1.2.2.1; omega, by have h9 := hb1.2.2.2.1; omega⟩ ⟨Nat.le_of_ble_eq_true rfl, Nat.le_of_ble_eq_true rfl⟩ (fun u H locs hC hP hD hS => ?_)
    refine lv_goto (tgt := 227) hx hb dL_call_206 (by decide) ?_
    exact gRi F dL_call_227 rfl u ⟨rfl, hC⟩ (gPl hP) (gDl hD) hS (Nat.le_of_ble_eq_true rfl) (Nat.le_of_ble_eq_true rfl)
  · obtain ⟨fs, h0⟩ := cl_recv hC
    refine gXrun F (gRunSx (own := RL) (bytes := cL_owned) (n := 4) (As := [.ref lq, .int (nI 18), .int a, .int b]) (rest := []) F hZ hS (hM wv hC H.size) gL_call_L_owned rfl rfl hb1.1 hb1.2.1 (by decide +kernel) rfl ⟨by have h9 := hb1.2.2.2.2.1; show rm.frames + 1 ≤ 9; omega, by have h9 := hb1.2.2.2.2.2; show 8 + (4 + 11) + rm.locals ≤ 230; omega⟩ hP hD (lit := wv) (wt := []) (wc := wv) (isC := List.range wv.length) (gRange wv) (gRange_nd _) rfl hl.1 (Nat.le_of_ble_eq_true rfl) dL_call_203 ⟨by have h9 := hb1.2.2.1; show 0 + mc ≤ 4; omega, by have h9 := hb1.2.2.2.1; show 0 + ms ≤ 528; omega⟩) hP hD hS (lit := wv) (wt := []) (wc := wv) (isC := List.range wv.length) (wr := []) (isR := []) (gRange wv) rfl rfl (fun _ h_ => by cases h_) (fun ce q9 u H locs hp hP hD hS hce hcv hcl => ?_)
    have hP : va_P G.1 vwCl (u ++ []) H := hP
    have hD : va_D A (u ++ []) := hD
    rcases hE with ⟨rfl, rfl⟩ | ⟨rfl, rfl⟩ | ⟨rfl, rfl⟩
    · refine vx_catch (own := RL) (name := gIO) (E := gIO) F.2.2.2.2.2.1 [] ⟨0, 227, 228, 66⟩ [⟨0, 227, 234, 68⟩, ⟨0, 227, 240, 70⟩] (by rw [htb]; rfl) (fun _ h_ => by cases h_) rfl (by decide) (F.2.2.2.2.2.2.1 (.classLink RL 66 gIO) (by decide +kernel)) (va_Nw.use rfl (hKK.2.2.2.2.2.1 (gIO, gIO) (by decide +kernel))) hce hcv hcl ?_
      refine lv_astore (lv' := [(6, .ref q9), (0, .ref lq), (1, .int (nI 18)), (2, .int a), (3, .int b), (4, .int cv), (5, .int dv)]) hx hb dL_call_228 hl (by decide) rfl (fun ls hl => ?_)
      refine lv_sipush (v := zI (-2011)) hx hb dL_call_230 (by decide) ?_
      exact gRi F dL_call_233 rfl u ⟨rfl, hp⟩ (gPl hP) (gDl hD) hS (by have h9 := hb1.2.2.1; omega) (by have h9 := hb1.2.2.2.1; omega)
    · refine vx_catch (own := RL) (name := gIA) (E := gIA) F.2.2.2.2.2.1 [⟨0, 227, 228, 66⟩] ⟨0, 227, 234, 68⟩ [⟨0, 227, 240, 70⟩] (by rw [htb]; rfl) (List.forall_mem_cons.mpr ⟨Or.inr ⟨by decide, gIO, F.2.2.2.2.2.2.1 (.classLink RL 66 gIO) (by decide +kernel), hKK.2.2.2.2.2.2.1 (gIA, gIO) (by decide +kernel)⟩, fun _ h_ => by cases h_⟩) rfl (by decide) (F.2.2.2.2.2.2.1 (.classLink RL 68 gIA) (by decide +kernel)) (va_Nw.use rfl (hKK.2.2.2.2.2.1 (gIA, gIA) (by decide +kernel))) hce hcv hcl ?_
      refine lv_astore (lv' := [(6, .ref q9), (0, .ref lq), (1, .int (nI 18)), (2, .int a), (3, .int b), (4, .int cv), (5, .int dv)]) hx hb dL_call_234 hl (by decide) rfl (fun ls hl => ?_)
      refine lv_sipush (v := zI (-2012)) hx hb dL_call_236 (by decide) ?_
      exact gRi F dL_call_239 rfl u ⟨rfl, hp⟩ (gPl hP) (gDl hD) hS (by have h9 := hb1.2.2.1; omega) (by have h9 := hb1.2.2.2.1; omega)
    · refine vx_catch (own := RL) (name := gIS) (E := gIS) F.2.2.2.2.2.1 [⟨0, 227, 228, 66⟩, ⟨0, 227, 234, 68⟩] ⟨0, 227, 240, 70⟩ [] (by rw [htb]; rfl) (List.forall_mem_cons.mpr ⟨Or.inr ⟨by decide, gIO, F.2.2.2.2.2.2.1 (.classLink RL 66 gIO) (by decide +kernel), hKK.2.2.2.2.2.2.1 (gIS, gIO) (by decide +kernel)⟩, List.forall_mem_cons.mpr ⟨Or.inr ⟨by decide, gIA, F.2.2.2.2.2.2.1 (.classLink RL 68 gIA) (by decide +kernel), hKK.2.2.2.2.2.2.1 (gIS, gIA) (by decide +kernel)⟩, fun _ h_ => by cases h_⟩⟩) rfl (by decide) (F.2.2.2.2.2.2.1 (.classLink RL 70 gIS) (by decide +kernel)) (va_Nw.use rfl (hKK.2.2.2.2.2.1 (gIS, gIS) (by decide +kernel))) hce hcv hcl ?_
      refine lv_astore (lv' := [(6, .ref q9), (0, .ref lq), (1, .int (nI 18)), (2, .int a), (3, .int b), (4, .int cv), (5, .int dv)]) hx hb dL_call_240 hl (by decide) rfl (fun ls hl => ?_)
      refine lv_sipush (v := zI (-2013)) hx hb dL_call_242 (by decide) ?_
      exact gRi F dL_call_245 rfl u ⟨rfl, hp⟩ (gPl hP) (gDl hD) hS (by have h9 := hb1.2.2.1; omega) (by have h9 := hb1.2.2.2.1; omega)

set_option maxHeartbeats 4000000 in
set_option maxRecDepth 100000 in
theorem call_19 (l : Launch) (G : gG) (lq : Nat) (S S' : SpT) (a b cv dv : Int32) (r : Int) (h : DoS l G lq yL_owned wsL_owned [.int (nI 19), .int a, .int b] S r S') : LW l G lq yL_call wsL_call { frames := 9, cells := 4, slots := 528, locals := 230 } [.int (nI 19), .int a, .int b, .int cv, .int dv] S (zI r) S' 4 528 := by
  intro wv hC
  refine gMw_mk (cc := cL_call) (nL := 7) (ret := some .int) (hh := [(0, 227, 228, 66), (0, 227, 234, 68), (0, 227, 240, 70)]) (Qc := fun A => va_Qi (S := va_W) (fun r' u => r' = zI r ∧ clS G lq u S') (gB G A (fun u => u)) A) (by decide) rfl (Nat.le_of_ble_eq_true rfl) ?_
  intro p e s m args below meth c A F htb hZ ls hl hP hD hS
  have hx := F.1
  have hb := F.2.1
  have hts := F.2.2.2.2.2.2.1
  have hKK := F.2.2.2.2.2.2.2.2.1
  have hl : lv_has ls 7 [(0, .ref lq), (1, .int (nI 19)), (2, .int a), (3, .int b), (4, .int cv), (5, .int dv)] := hl
  have hP : va_P G.1 vwCl (wv ++ []) s.heap := by rw [List.append_nil]; exact hP
  have hD : va_D A (wv ++ []) := by rw [List.append_nil]; exact hD
  generalize hH : s.heap = H at hP ⊢
  have hS0 : va_S A s.heap H [] := by rw [← hH]; exact va_S.rf
  clear hS
  have hS := hS0
  clear hS0
  generalize hLo : ([] : List Loc) = locs at hS ⊢
  refine lv_iload_n hx hb dL_call_0 rfl (lv_at hl 1 rfl) ?_
  refine bZT_ne (tgt := 17) hx hb dL_call_1 (by decide) (by decide) ?_
  refine lv_iload_n hx hb dL_call_17 rfl (lv_at hl 1 rfl) ?_
  refine lv_iconst (v := nI 1) hx hb dL_call_18 (by decide) ?_
  refine bIT_ne (tgt := 35) hx hb dL_call_19 (by decide) (by decide) ?_
  refine lv_iload_n hx hb dL_call_35 rfl (lv_at hl 1 rfl) ?_
  refine lv_iconst (v := nI 2) hx hb dL_call_36 (by decide) ?_
  refine bIT_ne (tgt := 48) hx hb dL_call_37 (by decide) (by decide) ?_
  refine lv_iload_n hx hb dL_call_48 rfl (lv_at hl 1 rfl) ?_
  refine lv_iconst (v := nI 3) hx hb dL_call_49 (by decide) ?_
  refine bIT_ne (tgt := 64) hx hb dL_call_50 (by decide) (by decide) ?_
  refine lv_iload_n hx hb dL_call_64 rfl (lv_at hl 1 rfl) ?_
  refine lv_iconst (v := nI 4) hx hb dL_call_65 (by decide) ?_
  refine bIT_ne (tgt := 82) hx hb dL_call_66 (by decide) (by decide) ?_
  refine lv_iload_n hx hb dL_call_82 rfl (lv_at hl 1 rfl) ?_
  refine lv_iconst (v := nI 5) hx hb dL_call_83 (by decide) ?_
  refine bIT_ne (tgt := 95) hx hb dL_call_84 (by decide) (by decide) ?_
  refine lv_iload_n hx hb dL_call_95 rfl (lv_at hl 1 rfl) ?_
  refine lv_bipush (v := nI 6) hx hb dL_call_96 (by decide) ?_
  refine bIT_ne (tgt := 109) hx hb dL_call_98 (by decide) (by decide) ?_
  refine lv_iload_n hx hb dL_call_109 rfl (lv_at hl 1 rfl) ?_
  refine lv_bipush (v := nI 7) hx hb dL_call_110 (by decide) ?_
  refine bIT_ne (tgt := 123) hx hb dL_call_112 (by decide) (by decide) ?_
  refine lv_iload_n hx hb dL_call_123 rfl (lv_at hl 1 rfl) ?_
  refine lv_bipush (v := nI 8) hx hb dL_call_124 (by decide) ?_
  refine bIT_ne (tgt := 136) hx hb dL_call_126 (by decide) (by decide) ?_
  refine lv_iload_n hx hb dL_call_136 rfl (lv_at hl 1 rfl) ?_
  refine lv_bipush (v := nI 9) hx hb dL_call_137 (by decide) ?_
  refine bIT_ne (tgt := 149) hx hb dL_call_139 (by decide) (by decide) ?_
  refine lv_iload_n hx hb dL_call_149 rfl (lv_at hl 1 rfl) ?_
  refine lv_bipush (v := nI 10) hx hb dL_call_150 (by decide) ?_
  refine bIT_ne (tgt := 163) hx hb dL_call_152 (by decide) (by decide) ?_
  refine lv_iload_n hx hb dL_call_163 rfl (lv_at hl 1 rfl) ?_
  refine lv_bipush (v := nI 11) hx hb dL_call_164 (by decide) ?_
  refine bIT_ne (tgt := 177) hx hb dL_call_166 (by decide) (by decide) ?_
  refine lv_iload_n hx hb dL_call_177 rfl (lv_at hl 1 rfl) ?_
  refine lv_bipush (v := nI 17) hx hb dL_call_178 (by decide) ?_
  refine bIT_ge (tgt := 193) hx hb dL_call_180 (by decide) (by decide) ?_
  refine lv_iload_n hx hb dL_call_193 rfl (lv_at hl 1 rfl) ?_
  refine lv_bipush (v := nI 29) hx hb dL_call_194 (by decide) ?_
  refine bIF_ge (tgt := 209) hx hb dL_call_196 (by decide) (by decide) ?_
  refine lv_aload_n hx hb dL_call_199 rfl (lv_at hl 0 rfl) ?_
  refine lv_iload_n hx hb dL_call_200 rfl (lv_at hl 1 rfl) ?_
  refine lv_iload_n hx hb dL_call_201 rfl (lv_at hl 2 rfl) ?_
  refine lv_iload_n hx hb dL_call_202 rfl (lv_at hl 3 rfl) ?_
  rcases h with ⟨rm, mc, ms, hb1, hM⟩ | ⟨E, rm, mc, ms, hb1, rfl, hE, hM⟩
  · refine lqS (own := RL) (index := 57) (bytes := cL_owned) (n := 4) (As := [.int (nI 19), .int a, .int b]) (rest := []) (c2 := 4) (s2 := 528) F hZ hM hC gL_call_L_owned rfl rfl hb1.1 hb1.2.1 (by decide +kernel) rfl ⟨by have h9 := hb1.2.2.2.2.1; show rm.frames + 1 ≤ 9; omega, by have h9 := hb1.2.2.2.2.2; show 8 + (4 + 11) + rm.locals ≤ 230; omega⟩ hP hD hS rfl hl.1 (Nat.le_of_ble_eq_true rfl) dL_call_203 ⟨by have h9 := hb1.2.2.1; omega, by have h9 := hb1.2.2.2.1; omega⟩ ⟨Nat.le_of_ble_eq_true rfl, Nat.le_of_ble_eq_true rfl⟩ (fun u H locs hC hP hD hS => ?_)
    refine lv_goto (tgt := 227) hx hb dL_call_206 (by decide) ?_
    exact gRi F dL_call_227 rfl u ⟨rfl, hC⟩ (gPl hP) (gDl hD) hS (Nat.le_of_ble_eq_true rfl) (Nat.le_of_ble_eq_true rfl)
  · obtain ⟨fs, h0⟩ := cl_recv hC
    refine gXrun F (gRunSx (own := RL) (bytes := cL_owned) (n := 4) (As := [.ref lq, .int (nI 19), .int a, .int b]) (rest := []) F hZ hS (hM wv hC H.size) gL_call_L_owned rfl rfl hb1.1 hb1.2.1 (by decide +kernel) rfl ⟨by have h9 := hb1.2.2.2.2.1; show rm.frames + 1 ≤ 9; omega, by have h9 := hb1.2.2.2.2.2; show 8 + (4 + 11) + rm.locals ≤ 230; omega⟩ hP hD (lit := wv) (wt := []) (wc := wv) (isC := List.range wv.length) (gRange wv) (gRange_nd _) rfl hl.1 (Nat.le_of_ble_eq_true rfl) dL_call_203 ⟨by have h9 := hb1.2.2.1; show 0 + mc ≤ 4; omega, by have h9 := hb1.2.2.2.1; show 0 + ms ≤ 528; omega⟩) hP hD hS (lit := wv) (wt := []) (wc := wv) (isC := List.range wv.length) (wr := []) (isR := []) (gRange wv) rfl rfl (fun _ h_ => by cases h_) (fun ce q9 u H locs hp hP hD hS hce hcv hcl => ?_)
    have hP : va_P G.1 vwCl (u ++ []) H := hP
    have hD : va_D A (u ++ []) := hD
    rcases hE with ⟨rfl, rfl⟩ | ⟨rfl, rfl⟩ | ⟨rfl, rfl⟩
    · refine vx_catch (own := RL) (name := gIO) (E := gIO) F.2.2.2.2.2.1 [] ⟨0, 227, 228, 66⟩ [⟨0, 227, 234, 68⟩, ⟨0, 227, 240, 70⟩] (by rw [htb]; rfl) (fun _ h_ => by cases h_) rfl (by decide) (F.2.2.2.2.2.2.1 (.classLink RL 66 gIO) (by decide +kernel)) (va_Nw.use rfl (hKK.2.2.2.2.2.1 (gIO, gIO) (by decide +kernel))) hce hcv hcl ?_
      refine lv_astore (lv' := [(6, .ref q9), (0, .ref lq), (1, .int (nI 19)), (2, .int a), (3, .int b), (4, .int cv), (5, .int dv)]) hx hb dL_call_228 hl (by decide) rfl (fun ls hl => ?_)
      refine lv_sipush (v := zI (-2011)) hx hb dL_call_230 (by decide) ?_
      exact gRi F dL_call_233 rfl u ⟨rfl, hp⟩ (gPl hP) (gDl hD) hS (by have h9 := hb1.2.2.1; omega) (by have h9 := hb1.2.2.2.1; omega)
    · refine vx_catch (own := RL) (name := gIA) (E := gIA) F.2.2.2.2.2.1 [⟨0, 227, 228, 66⟩] ⟨0, 227, 234, 68⟩ [⟨0, 227, 240, 70⟩] (by rw [htb]; rfl) (List.forall_mem_cons.mpr ⟨Or.inr ⟨by decide, gIO, F.2.2.2.2.2.2.1 (.classLink RL 66 gIO) (by decide +kernel), hKK.2.2.2.2.2.2.1 (gIA, gIO) (by decide +kernel)⟩, fun _ h_ => by cases h_⟩) rfl (by decide) (F.2.2.2.2.2.2.1 (.classLink RL 68 gIA) (by decide +kernel)) (va_Nw.use rfl (hKK.2.2.2.2.2.1 (gIA, gIA) (by decide +kernel))) hce hcv hcl ?_
      refine lv_astore (lv' := [(6, .ref q9), (0, .ref lq), (1, .int (nI 19)), (2, .int a), (3, .int b), (4, .int cv), (5, .int dv)]) hx hb dL_call_234 hl (by decide) rfl (fun ls hl => ?_)
      refine lv_sipush (v := zI (-2012)) hx hb dL_call_236 (by decide) ?_
      exact gRi F dL_call_239 rfl u ⟨rfl, hp⟩ (gPl hP) (gDl hD) hS (by have h9 := hb1.2.2.1; omega) (by have h9 := hb1.2.2.2.1; omega)
    · refine vx_catch (own := RL) (name := gIS) (E := gIS) F.2.2.2.2.2.1 [⟨0, 227, 228, 66⟩, ⟨0, 227, 234, 68⟩] ⟨0, 227, 240, 70⟩ [] (by rw [htb]; rfl) (List.forall_mem_cons.mpr ⟨Or.inr ⟨by decide, gIO, F.2.2.2.2.2.2.1 (.classLink RL 66 gIO) (by decide +kernel), hKK.2.2.2.2.2.2.1 (gIS, gIO) (by decide +kernel)⟩, List.forall_mem_cons.mpr ⟨Or.inr ⟨by decide, gIA, F.2.2.2.2.2.2.1 (.classLink RL 68 gIA) (by decide +kernel), hKK.2.2.2.2.2.2.1 (gIS, gIA) (by decide +kernel)⟩, fun _ h_ => by cases h_⟩⟩) rfl (by decide) (F.2.2.2.2.2.2.1 (.classLink RL 70 gIS) (by decide +kernel)) (va_Nw.use rfl (hKK.2.2.2.2.2.1 (gIS, gIS) (by decide +kernel))) hce hcv hcl ?_
      refine lv_astore (lv' := [(6, .ref q9), (0, .ref lq), (1, .int (nI 19)), (2, .int a), (3, .int b), (4, .int cv), (5, .int dv)]) hx hb dL_call_240 hl (by decide) rfl (fun ls hl => ?_)
      refine lv_sipush (v := zI (-2013)) hx hb dL_call_242 (by decide) ?_
      exact gRi F dL_call_245 rfl u ⟨rfl, hp⟩ (gPl hP) (gDl hD) hS (by have h9 := hb1.2.2.1; omega) (by have h9 := hb1.2.2.2.1; omega)

set_option maxHeartbeats 4000000 in
set_option maxRecDepth 100000 in
theorem call_20 (l : Launch) (G : gG) (lq : Nat) (S S' : SpT) (a b cv dv : Int32) (r : Int) (h : DoS l G lq yL_owned wsL_owned [.int (nI 20), .int a, .int b] S r S') : LW l G lq yL_call wsL_call { frames := 9, cells := 4, slots := 528, locals := 230 } [.int (nI 20), .int a, .int b, .int cv, .int dv] S (zI r) S' 4 528 := by
  intro wv hC
  refine gMw_mk (cc := cL_call) (nL := 7) (ret := some .int) (hh := [(0, 227, 228, 66), (0, 227, 234, 68), (0, 227, 240, 70)]) (Qc := fun A => va_Qi (S := va_W) (fun r' u => r' = zI r ∧ clS G lq u S') (gB G A (fun u => u)) A) (by decide) rfl (Nat.le_of_ble_eq_true rfl) ?_
  intro p e s m args below meth c A F htb hZ ls hl hP hD hS
  have hx := F.1
  have hb := F.2.1
  have hts := F.2.2.2.2.2.2.1
  have hKK := F.2.2.2.2.2.2.2.2.1
  have hl : lv_has ls 7 [(0, .ref lq), (1, .int (nI 20)), (2, .int a), (3, .int b), (4, .int cv), (5, .int dv)] := hl
  have hP : va_P G.1 vwCl (wv ++ []) s.heap := by rw [List.append_nil]; exact hP
  have hD : va_D A (wv ++ []) := by rw [List.append_nil]; exact hD
  generalize hH : s.heap = H at hP ⊢
  have hS0 : va_S A s.heap H [] := by rw [← hH]; exact va_S.rf
  clear hS
  have hS := hS0
  clear hS0
  generalize hLo : ([] : List Loc) = locs at hS ⊢
  refine lv_iload_n hx hb dL_call_0 rfl (lv_at hl 1 rfl) ?_
  refine bZT_ne (tgt := 17) hx hb dL_call_1 (by decide) (by decide) ?_
  refine lv_iload_n hx hb dL_call_17 rfl (lv_at hl 1 rfl) ?_
  refine lv_iconst (v := nI 1) hx hb dL_call_18 (by decide) ?_
  refine bIT_ne (tgt := 35) hx hb dL_call_19 (by decide) (by decide) ?_
  refine lv_iload_n hx hb dL_call_35 rfl (lv_at hl 1 rfl) ?_
  refine lv_iconst (v := nI 2) hx hb dL_call_36 (by decide) ?_
  refine bIT_ne (tgt := 48) hx hb dL_call_37 (by decide) (by decide) ?_
  refine lv_iload_n hx hb dL_call_48 rfl (lv_at hl 1 rfl) ?_
  refine lv_iconst (v := nI 3) hx hb dL_call_49 (by decide) ?_
  refine bIT_ne (tgt := 64) hx hb dL_call_50 (by decide) (by decide) ?_
  refine lv_iload_n hx hb dL_call_64 rfl (lv_at hl 1 rfl) ?_
  refine lv_iconst (v := nI 4) hx hb dL_call_65 (by decide) ?_
  refine bIT_ne (tgt := 82) hx hb dL_call_66 (by decide) (by decide) ?_
  refine lv_iload_n hx hb dL_call_82 rfl (lv_at hl 1 rfl) ?_
  refine lv_iconst (v := nI 5) hx hb dL_call_83 (by decide) ?_
  refine bIT_ne (tgt := 95) hx hb dL_call_84 (by decide) (by decide) ?_
  refine lv_iload_n hx hb dL_call_95 rfl (lv_at hl 1 rfl) ?_
  refine lv_bipush (v := nI 6) hx hb dL_call_96 (by decide) ?_
  refine bIT_ne (tgt := 109) hx hb dL_call_98 (by decide) (by decide) ?_
  refine lv_iload_n hx hb dL_call_109 rfl (lv_at hl 1 rfl) ?_
  refine lv_bipush (v := nI 7) hx hb dL_call_110 (by decide) ?_
  refine bIT_ne (tgt := 123) hx hb dL_call_112 (by decide) (by decide) ?_
  refine lv_iload_n hx hb dL_call_123 rfl (lv_at hl 1 rfl) ?_
  refine lv_bipush (v := nI 8) hx hb dL_call_124 (by decide) ?_
  refine bIT_ne (tgt := 136) hx hb dL_call_126 (by decide) (by decide) ?_
  refine lv_iload_n hx hb dL_call_136 rfl (lv_at hl 1 rfl) ?_
  refine lv_bipush (v := nI 9) hx hb dL_call_137 (by decide) ?_
  refine bIT_ne (tgt := 149) hx hb dL_call_139 (by decide) (by decide) ?_
  refine lv_iload_n hx hb dL_call_149 rfl (lv_at hl 1 rfl) ?_
  refine lv_bipush (v := nI 10) hx hb dL_call_150 (by decide) ?_
  refine bIT_ne (tgt := 163) hx hb dL_call_152 (by decide) (by decide) ?_
  refine lv_iload_n hx hb dL_call_163 rfl (lv_at hl 1 rfl) ?_
  refine lv_bipush (v := nI 11) hx hb dL_call_164 (by decide) ?_
  refine bIT_ne (tgt := 177) hx hb dL_call_166 (by decide) (by decide) ?_
  refine lv_iload_n hx hb dL_call_177 rfl (lv_at hl 1 rfl) ?_
  refine lv_bipush (v := nI 17) hx hb dL_call_178 (by decide) ?_
  refine bIT_ge (tgt := 193) hx hb dL_call_180 (by decide) (by decide) ?_
  refine lv_iload_n hx hb dL_call_193 rfl (lv_at hl 1 rfl) ?_
  refine lv_bipush (v := nI 29) hx hb dL_call_194 (by decide) ?_
  refine bIF_ge (tgt := 209) hx hb dL_call_196 (by decide) (by decide) ?_
  refine lv_aload_n hx hb dL_call_199 rfl (lv_at hl 0 rfl) ?_
  refine lv_iload_n hx hb dL_call_200 rfl (lv_at hl 1 rfl) ?_
  refine lv_iload_n hx hb dL_call_201 rfl (lv_at hl 2 rfl) ?_
  refine lv_iload_n hx hb dL_call_202 rfl (lv_at hl 3 rfl) ?_
  rcases h with ⟨rm, mc, ms, hb1, hM⟩ | ⟨E, rm, mc, ms, hb1, rfl, hE, hM⟩
  · refine lqS (own := RL) (index := 57) (bytes := cL_owned) (n := 4) (As := [.int (nI 20), .int a, .int b]) (rest := []) (c2 := 4) (s2 := 528) F hZ hM hC gL_call_L_owned rfl rfl hb1.1 hb1.2.1 (by decide +kernel) rfl ⟨by have h9 := hb1.2.2.2.2.1; show rm.frames + 1 ≤ 9; omega, by have h9 := hb1.2.2.2.2.2; show 8 + (4 + 11) + rm.locals ≤ 230; omega⟩ hP hD hS rfl hl.1 (Nat.le_of_ble_eq_true rfl) dL_call_203 ⟨by have h9 := hb1.2.2.1; omega, by have h9 := hb1.2.2.2.1; omega⟩ ⟨Nat.le_of_ble_eq_true rfl, Nat.le_of_ble_eq_true rfl⟩ (fun u H locs hC hP hD hS => ?_)
    refine lv_goto (tgt := 227) hx hb dL_call_206 (by decide) ?_
    exact gRi F dL_call_227 rfl u ⟨rfl, hC⟩ (gPl hP) (gDl hD) hS (Nat.le_of_ble_eq_true rfl) (Nat.le_of_ble_eq_true rfl)
  · obtain ⟨fs, h0⟩ := cl_recv hC
    refine gXrun F (gRunSx (own := RL) (bytes := cL_owned) (n := 4) (As := [.ref lq, .int (nI 20), .int a, .int b]) (rest := []) F hZ hS (hM wv hC H.size) gL_call_L_owned rfl rfl hb1.1 hb1.2.1 (by decide +kernel) rfl ⟨by have h9 := hb1.2.2.2.2.1; show rm.frames + 1 ≤ 9; omega, by have h9 := hb1.2.2.2.2.2; show 8 + (4 + 11) + rm.locals ≤ 230; omega⟩ hP hD (lit := wv) (wt := []) (wc := wv) (isC := List.range wv.length) (gRange wv) (gRange_nd _) rfl hl.1 (Nat.le_of_ble_eq_true rfl) dL_call_203 ⟨by have h9 := hb1.2.2.1; show 0 + mc ≤ 4; omega, by have h9 := hb1.2.2.2.1; show 0 + ms ≤ 528; omega⟩) hP hD hS (lit := wv) (wt := []) (wc := wv) (isC := List.range wv.length) (wr := []) (isR := []) (gRange wv) rfl rfl (fun _ h_ => by cases h_) (fun ce q9 u H locs hp hP hD hS hce hcv hcl => ?_)
    have hP : va_P G.1 vwCl (u ++ []) H := hP
    have hD : va_D A (u ++ []) := hD
    rcases hE with ⟨rfl, rfl⟩ | ⟨rfl, rfl⟩ | ⟨rfl, rfl⟩
    · refine vx_catch (own := RL) (name := gIO) (E := gIO) F.2.2.2.2.2.1 [] ⟨0, 227, 228, 66⟩ [⟨0, 227, 234, 68⟩, ⟨0, 227, 240, 70⟩] (by rw [htb]; rfl) (fun _ h_ => by cases h_) rfl (by decide) (F.2.2.2.2.2.2.1 (.classLink RL 66 gIO) (by decide +kernel)) (va_Nw.use rfl (hKK.2.2.2.2.2.1 (gIO, gIO) (by decide +kernel))) hce hcv hcl ?_
      refine lv_astore (lv' := [(6, .ref q9), (0, .ref lq), (1, .int (nI 20)), (2, .int a), (3, .int b), (4, .int cv), (5, .int dv)]) hx hb dL_call_228 hl (by decide) rfl (fun ls hl => ?_)
      refine lv_sipush (v := zI (-2011)) hx hb dL_call_230 (by decide) ?_
      exact gRi F dL_call_233 rfl u ⟨rfl, hp⟩ (gPl hP) (gDl hD) hS (by have h9 := hb1.2.2.1; omega) (by have h9 := hb1.2.2.2.1; omega)
    · refine vx_catch (own := RL) (name := gIA) (E := gIA) F.2.2.2.2.2.1 [⟨0, 227, 228, 66⟩] ⟨0, 227, 234, 68⟩ [⟨0, 227, 240, 70⟩] (by rw [htb]; rfl) (List.forall_mem_cons.mpr ⟨Or.inr ⟨by decide, gIO, F.2.2.2.2.2.2.1 (.classLink RL 66 gIO) (by decide +kernel), hKK.2.2.2.2.2.2.1 (gIA, gIO) (by decide +kernel)⟩, fun _ h_ => by cases h_⟩) rfl (by decide) (F.2.2.2.2.2.2.1 (.classLink RL 68 gIA) (by decide +kernel)) (va_Nw.use rfl (hKK.2.2.2.2.2.1 (gIA, gIA) (by decide +kernel))) hce hcv hcl ?_
      refine lv_astore (lv' := [(6, .ref q9), (0, .ref lq), (1, .int (nI 20)), (2, .int a), (3, .int b), (4, .int cv), (5, .int dv)]) hx hb dL_call_234 hl (by decide) rfl (fun ls hl => ?_)
      refine lv_sipush (v := zI (-2012)) hx hb dL_call_236 (by decide) ?_
      exact gRi F dL_call_239 rfl u ⟨rfl, hp⟩ (gPl hP) (gDl hD) hS (by have h9 := hb1.2.2.1; omega) (by have h9 := hb1.2.2.2.1; omega)
    · refine vx_catch (own := RL) (name := gIS) (E := gIS) F.2.2.2.2.2.1 [⟨0, 227, 228, 66⟩, ⟨0, 227, 234, 68⟩] ⟨0, 227, 240, 70⟩ [] (by rw [htb]; rfl) (List.forall_mem_cons.mpr ⟨Or.inr ⟨by decide, gIO, F.2.2.2.2.2.2.1 (.classLink RL 66 gIO) (by decide +kernel), hKK.2.2.2.2.2.2.1 (gIS, gIO) (by decide +kernel)⟩, List.forall_mem_cons.mpr ⟨Or.inr ⟨by decide, gIA, F.2.2.2.2.2.2.1 (.classLink RL 68 gIA) (by decide +kernel), hKK.2.2.2.2.2.2.1 (gIS, gIA) (by decide +kernel)⟩, fun _ h_ => by cases h_⟩⟩) rfl (by decide) (F.2.2.2.2.2.2.1 (.classLink RL 70 gIS) (by decide +kernel)) (va_Nw.use rfl (hKK.2.2.2.2.2.1 (gIS, gIS) (by decide +kernel))) hce hcv hcl ?_
      refine lv_astore (lv' := [(6, .ref q9), (0, .ref lq), (1, .int (nI 20)), (2, .int a), (3, .int b), (4, .int cv), (5, .int dv)]) hx hb dL_call_240 hl (by decide) rfl (fun ls hl => ?_)
      refine lv_sipush (v := zI (-2013)) hx hb dL_call_242 (by decide) ?_
      exact gRi F dL_call_245 rfl u ⟨rfl, hp⟩ (gPl hP) (gDl hD) hS (by have h9 := hb1.2.2.1; omega) (by have h9 := hb1.2.2.2.1; omega)

set_option maxHeartbeats 4000000 in
set_option maxRecDepth 100000 in
theorem call_21 (l : Launch) (G : gG) (lq : Nat) (S S' : SpT) (a b cv dv : Int32) (r : Int) (h : DoS l G lq yL_owned wsL_owned [.int (nI 21), .int a, .int b] S r S') : LW l G lq yL_call wsL_call { frames := 9, cells := 4, slots := 528, locals := 230 } [.int (nI 21), .int a, .int b, .int cv, .int dv] S (zI r) S' 4 528 := by
  intro wv hC
  refine gMw_mk (cc := cL_call) (nL := 7) (ret := some .int) (hh := [(0, 227, 228, 66), (0, 227, 234, 68), (0, 227, 240, 70)]) (Qc := fun A => va_Qi (S := va_W) (fun r' u => r' = zI r ∧ clS G lq u S') (gB G A (fun u => u)) A) (by decide) rfl (Nat.le_of_ble_eq_true rfl) ?_
  intro p e s m args below meth c A F htb hZ ls hl hP hD hS
  have hx := F.1
  have hb := F.2.1
  have hts := F.2.2.2.2.2.2.1
  have hKK := F.2.2.2.2.2.2.2.2.1
  have hl : lv_has ls 7 [(0, .ref lq), (1, .int (nI 21)), (2, .int a), (3, .int b), (4, .int cv), (5, .int dv)] := hl
  have hP : va_P G.1 vwCl (wv ++ []) s.heap := by rw [List.append_nil]; exact hP
  have hD : va_D A (wv ++ []) := by rw [List.append_nil]; exact hD
  generalize hH : s.heap = H at hP ⊢
  have hS0 : va_S A s.heap H [] := by rw [← hH]; exact va_S.rf
  clear hS
  have hS := hS0
  clear hS0
  generalize hLo : ([] : List Loc) = locs at hS ⊢
  refine lv_iload_n hx hb dL_call_0 rfl (lv_at hl 1 rfl) ?_
  refine bZT_ne (tgt := 17) hx hb dL_call_1 (by decide) (by decide) ?_
  refine lv_iload_n hx hb dL_call_17 rfl (lv_at hl 1 rfl) ?_
  refine lv_iconst (v := nI 1) hx hb dL_call_18 (by decide) ?_
  refine bIT_ne (tgt := 35) hx hb dL_call_19 (by decide) (by decide) ?_
  refine lv_iload_n hx hb dL_call_35 rfl (lv_at hl 1 rfl) ?_
  refine lv_iconst (v := nI 2) hx hb dL_call_36 (by decide) ?_
  refine bIT_ne (tgt := 48) hx hb dL_call_37 (by decide) (by decide) ?_
  refine lv_iload_n hx hb dL_call_48 rfl (lv_at hl 1 rfl) ?_
  refine lv_iconst (v := nI 3) hx hb dL_call_49 (by decide) ?_
  refine bIT_ne (tgt := 64) hx hb dL_call_50 (by decide) (by decide) ?_
  refine lv_iload_n hx hb dL_call_64 rfl (lv_at hl 1 rfl) ?_
  refine lv_iconst (v := nI 4) hx hb dL_call_65 (by decide) ?_
  refine bIT_ne (tgt := 82) hx hb dL_call_66 (by decide) (by decide) ?_
  refine lv_iload_n hx hb dL_call_82 rfl (lv_at hl 1 rfl) ?_
  refine lv_iconst (v := nI 5) hx hb dL_call_83 (by decide) ?_
  refine bIT_ne (tgt := 95) hx hb dL_call_84 (by decide) (by decide) ?_
  refine lv_iload_n hx hb dL_call_95 rfl (lv_at hl 1 rfl) ?_
  refine lv_bipush (v := nI 6) hx hb dL_call_96 (by decide) ?_
  refine bIT_ne (tgt := 109) hx hb dL_call_98 (by decide) (by decide) ?_
  refine lv_iload_n hx hb dL_call_109 rfl (lv_at hl 1 rfl) ?_
  refine lv_bipush (v := nI 7) hx hb dL_call_110 (by decide) ?_
  refine bIT_ne (tgt := 123) hx hb dL_call_112 (by decide) (by decide) ?_
  refine lv_iload_n hx hb dL_call_123 rfl (lv_at hl 1 rfl) ?_
  refine lv_bipush (v := nI 8) hx hb dL_call_124 (by decide) ?_
  refine bIT_ne (tgt := 136) hx hb dL_call_126 (by decide) (by decide) ?_
  refine lv_iload_n hx hb dL_call_136 rfl (lv_at hl 1 rfl) ?_
  refine lv_bipush (v := nI 9) hx hb dL_call_137 (by decide) ?_
  refine bIT_ne (tgt := 149) hx hb dL_call_139 (by decide) (by decide) ?_
  refine lv_iload_n hx hb dL_call_149 rfl (lv_at hl 1 rfl) ?_
  refine lv_bipush (v := nI 10) hx hb dL_call_150 (by decide) ?_
  refine bIT_ne (tgt := 163) hx hb dL_call_152 (by decide) (by decide) ?_
  refine lv_iload_n hx hb dL_call_163 rfl (lv_at hl 1 rfl) ?_
  refine lv_bipush (v := nI 11) hx hb dL_call_164 (by decide) ?_
  refine bIT_ne (tgt := 177) hx hb dL_call_166 (by decide) (by decide) ?_
  refine lv_iload_n hx hb dL_call_177 rfl (lv_at hl 1 rfl) ?_
  refine lv_bipush (v := nI 17) hx hb dL_call_178 (by decide) ?_
  refine bIT_ge (tgt := 193) hx hb dL_call_180 (by decide) (by decide) ?_
  refine lv_iload_n hx hb dL_call_193 rfl (lv_at hl 1 rfl) ?_
  refine lv_bipush (v := nI 29) hx hb dL_call_194 (by decide) ?_
  refine bIF_ge (tgt := 209) hx hb dL_call_196 (by decide) (by decide) ?_
  refine lv_aload_n hx hb dL_call_199 rfl (lv_at hl 0 rfl) ?_
  refine lv_iload_n hx hb dL_call_200 rfl (lv_at hl 1 rfl) ?_
  refine lv_iload_n hx hb dL_call_201 rfl (lv_at hl 2 rfl) ?_
  refine lv_iload_n hx hb dL_call_202 rfl (lv_at hl 3 rfl) ?_
  rcases h with ⟨rm, mc, ms, hb1, hM⟩ | ⟨E, rm, mc, ms, hb1, rfl, hE, hM⟩
  · refine lqS (own := RL) (index := 57) (bytes := cL_owned) (n := 4) (As := [.int (nI 21), .int a, .int b]) (rest := []) (c2 := 4) (s2 := 528) F hZ hM hC gL_call_L_owned rfl rfl hb1.1 hb1.2.1 (by decide +kernel) rfl ⟨by have h9 := hb1.2.2.2.2.1; show rm.frames + 1 ≤ 9; omega, by have h9 := hb1.2.2.2.2.2; show 8 + (4 + 11) + rm.locals ≤ 230; omega⟩ hP hD hS rfl hl.1 (Nat.le_of_ble_eq_true rfl) dL_call_203 ⟨by have h9 := hb1.2.2.1; omega, by have h9 := hb1.2.2.2.1; omega⟩ ⟨Nat.le_of_ble_eq_true rfl, Nat.le_of_ble_eq_true rfl⟩ (fun u H locs hC hP hD hS => ?_)
    refine lv_goto (tgt := 227) hx hb dL_call_206 (by decide) ?_
    exact gRi F dL_call_227 rfl u ⟨rfl, hC⟩ (gPl hP) (gDl hD) hS (Nat.le_of_ble_eq_true rfl) (Nat.le_of_ble_eq_true rfl)
  · obtain ⟨fs, h0⟩ := cl_recv hC
    refine gXrun F (gRunSx (own := RL) (bytes := cL_owned) (n := 4) (As := [.ref lq, .int (nI 21), .int a, .int b]) (rest := []) F hZ hS (hM wv hC H.size) gL_call_L_owned rfl rfl hb1.1 hb1.2.1 (by decide +kernel) rfl ⟨by have h9 := hb1.2.2.2.2.1; show rm.frames + 1 ≤ 9; omega, by have h9 := hb1.2.2.2.2.2; show 8 + (4 + 11) + rm.locals ≤ 230; omega⟩ hP hD (lit := wv) (wt := []) (wc := wv) (isC := List.range wv.length) (gRange wv) (gRange_nd _) rfl hl.1 (Nat.le_of_ble_eq_true rfl) dL_call_203 ⟨by have h9 := hb1.2.2.1; show 0 + mc ≤ 4; omega, by have h9 := hb1.2.2.2.1; show 0 + ms ≤ 528; omega⟩) hP hD hS (lit := wv) (wt := []) (wc := wv) (isC := List.range wv.length) (wr := []) (isR := []) (gRange wv) rfl rfl (fun _ h_ => by cases h_) (fun ce q9 u H locs hp hP hD hS hce hcv hcl => ?_)
    have hP : va_P G.1 vwCl (u ++ []) H := hP
    have hD : va_D A (u ++ []) := hD
    rcases hE with ⟨rfl, rfl⟩ | ⟨rfl, rfl⟩ | ⟨rfl, rfl⟩
    · refine vx_catch (own := RL) (name := gIO) (E := gIO) F.2.2.2.2.2.1 [] ⟨0, 227, 228, 66⟩ [⟨0, 227, 234, 68⟩, ⟨0, 227, 240, 70⟩] (by rw [htb]; rfl) (fun _ h_ => by cases h_) rfl (by decide) (F.2.2.2.2.2.2.1 (.classLink RL 66 gIO) (by decide +kernel)) (va_Nw.use rfl (hKK.2.2.2.2.2.1 (gIO, gIO) (by decide +kernel))) hce hcv hcl ?_
      refine lv_astore (lv' := [(6, .ref q9), (0, .ref lq), (1, .int (nI 21)), (2, .int a), (3, .int b), (4, .int cv), (5, .int dv)]) hx hb dL_call_228 hl (by decide) rfl (fun ls hl => ?_)
      refine lv_sipush (v := zI (-2011)) hx hb dL_call_230 (by decide) ?_
      exact gRi F dL_call_233 rfl u ⟨rfl, hp⟩ (gPl hP) (gDl hD) hS (by have h9 := hb1.2.2.1; omega) (by have h9 := hb1.2.2.2.1; omega)
    · refine vx_catch (own := RL) (name := gIA) (E := gIA) F.2.2.2.2.2.1 [⟨0, 227, 228, 66⟩] ⟨0, 227, 234, 68⟩ [⟨0, 227, 240, 70⟩] (by rw [htb]; rfl) (List.forall_mem_cons.mpr ⟨Or.inr ⟨by decide, gIO, F.2.2.2.2.2.2.1 (.classLink RL 66 gIO) (by decide +kernel), hKK.2.2.2.2.2.2.1 (gIA, gIO) (by decide +kernel)⟩, fun _ h_ => by cases h_⟩) rfl (by decide) (F.2.2.2.2.2.2.1 (.classLink RL 68 gIA) (by decide +kernel)) (va_Nw.use rfl (hKK.2.2.2.2.2.1 (gIA, gIA) (by decide +kernel))) hce hcv hcl ?_
      refine lv_astore (lv' := [(6, .ref q9), (0, .ref lq), (1, .int (nI 21)), (2, .int a), (3, .int b), (4, .int cv), (5, .int dv)]) hx hb dL_call_234 hl (by decide) rfl (fun ls hl => ?_)
      refine lv_sipush (v := zI (-2012)) hx hb dL_call_236 (by decide) ?_
      exact gRi F dL_call_239 rfl u ⟨rfl, hp⟩ (gPl hP) (gDl hD) hS (by have h9 := hb1.2.2.1; omega) (by have h9 := hb1.2.2.2.1; omega)
    · refine vx_catch (own := RL) (name := gIS) (E := gIS) F.2.2.2.2.2.1 [⟨0, 227, 228, 66⟩, ⟨0, 227, 234, 68⟩] ⟨0, 227, 240, 70⟩ [] (by rw [htb]; rfl) (List.forall_mem_cons.mpr ⟨Or.inr ⟨by decide, gIO, F.2.2.2.2.2.2.1 (.classLink RL 66 gIO) (by decide +kernel), hKK.2.2.2.2.2.2.1 (gIS, gIO) (by decide +kernel)⟩, List.forall_mem_cons.mpr ⟨Or.inr ⟨by decide, gIA, F.2.2.2.2.2.2.1 (.classLink RL 68 gIA) (by decide +kernel), hKK.2.2.2.2.2.2.1 (gIS, gIA) (by decide +kernel)⟩, fun _ h_ => by cases h_⟩⟩) rfl (by decide) (F.2.2.2.2.2.2.1 (.classLink RL 70 gIS) (by decide +kernel)) (va_Nw.use rfl (hKK.2.2.2.2.2.1 (gIS, gIS) (by decide +kernel))) hce hcv hcl ?_
      refine lv_astore (lv' := [(6, .ref q9), (0, .ref lq), (1, .int (nI 21)), (2, .int a), (3, .int b), (4, .int cv), (5, .int dv)]) hx hb dL_call_240 hl (by decide) rfl (fun ls hl => ?_)
      refine lv_sipush (v := zI (-2013)) hx hb dL_call_242 (by decide) ?_
      exact gRi F dL_call_245 rfl u ⟨rfl, hp⟩ (gPl hP) (gDl hD) hS (by have h9 := hb1.2.2.1; omega) (by have h9 := hb1.2.2.2.1; omega)

set_option maxHeartbeats 4000000 in
set_option maxRecDepth 100000 in
theorem call_22 (l : Launch) (G : gG) (lq : Nat) (S S' : SpT) (a b cv dv : Int32) (r : Int) (h : DoS l G lq yL_owned wsL_owned [.int (nI 22), .int a, .int b] S r S') : LW l G lq yL_call wsL_call { frames := 9, cells := 4, slots := 528, locals := 230 } [.int (nI 22), .int a, .int b, .int cv, .int dv] S (zI r) S' 4 528 := by
  intro wv hC
  refine gMw_mk (cc := cL_call) (nL := 7) (ret := some .int) (hh := [(0, 227, 228, 66), (0, 227, 234, 68), (0, 227, 240, 70)]) (Qc := fun A => va_Qi (S := va_W) (fun r' u => r' = zI r ∧ clS G lq u S') (gB G A (fun u => u)) A) (by decide) rfl (Nat.le_of_ble_eq_true rfl) ?_
  intro p e s m args below meth c A F htb hZ ls hl hP hD hS
  have hx := F.1
  have hb := F.2.1
  have hts := F.2.2.2.2.2.2.1
  have hKK := F.2.2.2.2.2.2.2.2.1
  have hl : lv_has ls 7 [(0, .ref lq), (1, .int (nI 22)), (2, .int a), (3, .int b), (4, .int cv), (5, .int dv)] := hl
  have hP : va_P G.1 vwCl (wv ++ []) s.heap := by rw [List.append_nil]; exact hP
  have hD : va_D A (wv ++ []) := by rw [List.append_nil]; exact hD
  generalize hH : s.heap = H at hP ⊢
  have hS0 : va_S A s.heap H [] := by rw [← hH]; exact va_S.rf
  clear hS
  have hS := hS0
  clear hS0
  generalize hLo : ([] : List Loc) = locs at hS ⊢
  refine lv_iload_n hx hb dL_call_0 rfl (lv_at hl 1 rfl) ?_
  refine bZT_ne (tgt := 17) hx hb dL_call_1 (by decide) (by decide) ?_
  refine lv_iload_n hx hb dL_call_17 rfl (lv_at hl 1 rfl) ?_
  refine lv_iconst (v := nI 1) hx hb dL_call_18 (by decide) ?_
  refine bIT_ne (tgt := 35) hx hb dL_call_19 (by decide) (by decide) ?_
  refine lv_iload_n hx hb dL_call_35 rfl (lv_at hl 1 rfl) ?_
  refine lv_iconst (v := nI 2) hx hb dL_call_36 (by decide) ?_
  refine bIT_ne (tgt := 48) hx hb dL_call_37 (by decide) (by decide) ?_
  refine lv_iload_n hx hb dL_call_48 rfl (lv_at hl 1 rfl) ?_
  refine lv_iconst (v := nI 3) hx hb dL_call_49 (by decide) ?_
  refine bIT_ne (tgt := 64) hx hb dL_call_50 (by decide) (by decide) ?_
  refine lv_iload_n hx hb dL_call_64 rfl (lv_at hl 1 rfl) ?_
  refine lv_iconst (v := nI 4) hx hb dL_call_65 (by decide) ?_
  refine bIT_ne (tgt := 82) hx hb dL_call_66 (by decide) (by decide) ?_
  refine lv_iload_n hx hb dL_call_82 rfl (lv_at hl 1 rfl) ?_
  refine lv_iconst (v := nI 5) hx hb dL_call_83 (by decide) ?_
  refine bIT_ne (tgt := 95) hx hb dL_call_84 (by decide) (by decide) ?_
  refine lv_iload_n hx hb dL_call_95 rfl (lv_at hl 1 rfl) ?_
  refine lv_bipush (v := nI 6) hx hb dL_call_96 (by decide) ?_
  refine bIT_ne (tgt := 109) hx hb dL_call_98 (by decide) (by decide) ?_
  refine lv_iload_n hx hb dL_call_109 rfl (lv_at hl 1 rfl) ?_
  refine lv_bipush (v := nI 7) hx hb dL_call_110 (by decide) ?_
  refine bIT_ne (tgt := 123) hx hb dL_call_112 (by decide) (by decide) ?_
  refine lv_iload_n hx hb dL_call_123 rfl (lv_at hl 1 rfl) ?_
  refine lv_bipush (v := nI 8) hx hb dL_call_124 (by decide) ?_
  refine bIT_ne (tgt := 136) hx hb dL_call_126 (by decide) (by decide) ?_
  refine lv_iload_n hx hb dL_call_136 rfl (lv_at hl 1 rfl) ?_
  refine lv_bipush (v := nI 9) hx hb dL_call_137 (by decide) ?_
  refine bIT_ne (tgt := 149) hx hb dL_call_139 (by decide) (by decide) ?_
  refine lv_iload_n hx hb dL_call_149 rfl (lv_at hl 1 rfl) ?_
  refine lv_bipush (v := nI 10) hx hb dL_call_150 (by decide) ?_
  refine bIT_ne (tgt := 163) hx hb dL_call_152 (by decide) (by decide) ?_
  refine lv_iload_n hx hb dL_call_163 rfl (lv_at hl 1 rfl) ?_
  refine lv_bipush (v := nI 11) hx hb dL_call_164 (by decide) ?_
  refine bIT_ne (tgt := 177) hx hb dL_call_166 (by decide) (by decide) ?_
  refine lv_iload_n hx hb dL_call_177 rfl (lv_at hl 1 rfl) ?_
  refine lv_bipush (v := nI 17) hx hb dL_call_178 (by decide) ?_
  refine bIT_ge (tgt := 193) hx hb dL_call_180 (by decide) (by decide) ?_
  refine lv_iload_n hx hb dL_call_193 rfl (lv_at hl 1 rfl) ?_
  refine lv_bipush (v := nI 29) hx hb dL_call_194 (by decide) ?_
  refine bIF_ge (tgt := 209) hx hb dL_call_196 (by decide) (by decide) ?_
  refine lv_aload_n hx hb dL_call_199 rfl (lv_at hl 0 rfl) ?_
  refine lv_iload_n hx hb dL_call_200 rfl (lv_at hl 1 rfl) ?_
  refine lv_iload_n hx hb dL_call_201 rfl (lv_at hl 2 rfl) ?_
  refine lv_iload_n hx hb dL_call_202 rfl (lv_at hl 3 rfl) ?_
  rcases h with ⟨rm, mc, ms, hb1, hM⟩ | ⟨E, rm, mc, ms, hb1, rfl, hE, hM⟩
  · refine lqS (own := RL) (index := 57) (bytes := cL_owned) (n := 4) (As := [.int (nI 22), .int a, .int b]) (rest := []) (c2 := 4) (s2 := 528) F hZ hM hC gL_call_L_owned rfl rfl hb1.1 hb1.2.1 (by decide +kernel) rfl ⟨by have h9 := hb1.2.2.2.2.1; show rm.frames + 1 ≤ 9; omega, by have h9 := hb1.2.2.2.2.2; show 8 + (4 + 11) + rm.locals ≤ 230; omega⟩ hP hD hS rfl hl.1 (Nat.le_of_ble_eq_true rfl) dL_call_203 ⟨by have h9 := hb1.2.2.1; omega, by have h9 := hb1.2.2.2.1; omega⟩ ⟨Nat.le_of_ble_eq_true rfl, Nat.le_of_ble_eq_true rfl⟩ (fun u H locs hC hP hD hS => ?_)
    refine lv_goto (tgt := 227) hx hb dL_call_206 (by decide) ?_
    exact gRi F dL_call_227 rfl u ⟨rfl, hC⟩ (gPl hP) (gDl hD) hS (Nat.le_of_ble_eq_true rfl) (Nat.le_of_ble_eq_true rfl)
  · obtain ⟨fs, h0⟩ := cl_recv hC
    refine gXrun F (gRunSx (own := RL) (bytes := cL_owned) (n := 4) (As := [.ref lq, .int (nI 22), .int a, .int b]) (rest := []) F hZ hS (hM wv hC H.size) gL_call_L_owned rfl rfl hb1.1 hb1.2.1 (by decide +kernel) rfl ⟨by have h9 := hb1.2.2.2.2.1; show rm.frames + 1 ≤ 9; omega, by have h9 := hb1.2.2.2.2.2; show 8 + (4 + 11) + rm.locals ≤ 230; omega⟩ hP hD (lit := wv) (wt := []) (wc := wv) (isC := List.range wv.length) (gRange wv) (gRange_nd _) rfl hl.1 (Nat.le_of_ble_eq_true rfl) dL_call_203 ⟨by have h9 := hb1.2.2.1; show 0 + mc ≤ 4; omega, by have h9 := hb1.2.2.2.1; show 0 + ms ≤ 528; omega⟩) hP hD hS (lit := wv) (wt := []) (wc := wv) (isC := List.range wv.length) (wr := []) (isR := []) (gRange wv) rfl rfl (fun _ h_ => by cases h_) (fun ce q9 u H locs hp hP hD hS hce hcv hcl => ?_)
    have hP : va_P G.1 vwCl (u ++ []) H := hP
    have hD : va_D A (u ++ []) := hD
    rcases hE with ⟨rfl, rfl⟩ | ⟨rfl, rfl⟩ | ⟨rfl, rfl⟩
    · refine vx_catch (own := RL) (name := gIO) (E := gIO) F.2.2.2.2.2.1 [] ⟨0, 227, 228, 66⟩ [⟨0, 227, 234, 68⟩, ⟨0, 227, 240, 70⟩] (by rw [htb]; rfl) (fun _ h_ => by cases h_) rfl (by decide) (F.2.2.2.2.2.2.1 (.classLink RL 66 gIO) (by decide +kernel)) (va_Nw.use rfl (hKK.2.2.2.2.2.1 (gIO, gIO) (by decide +kernel))) hce hcv hcl ?_
      refine lv_astore (lv' := [(6, .ref q9), (0, .ref lq), (1, .int (nI 22)), (2, .int a), (3, .int b), (4, .int cv), (5, .int dv)]) hx hb dL_call_228 hl (by decide) rfl (fun ls hl => ?_)
      refine lv_sipush (v := zI (-2011)) hx hb dL_call_230 (by decide) ?_
      exact gRi F dL_call_233 rfl u ⟨rfl, hp⟩ (gPl hP) (gDl hD) hS (by have h9 := hb1.2.2.1; omega) (by have h9 := hb1.2.2.2.1; omega)
    · refine vx_catch (own := RL) (name := gIA) (E := gIA) F.2.2.2.2.2.1 [⟨0, 227, 228, 66⟩] ⟨0, 227, 234, 68⟩ [⟨0, 227, 240, 70⟩] (by rw [htb]; rfl) (List.forall_mem_cons.mpr ⟨Or.inr ⟨by decide, gIO, F.2.2.2.2.2.2.1 (.classLink RL 66 gIO) (by decide +kernel), hKK.2.2.2.2.2.2.1 (gIA, gIO) (by decide +kernel)⟩, fun _ h_ => by cases h_⟩) rfl (by decide) (F.2.2.2.2.2.2.1 (.classLink RL 68 gIA) (by decide +kernel)) (va_Nw.use rfl (hKK.2.2.2.2.2.1 (gIA, gIA) (by decide +kernel))) hce hcv hcl ?_
      refine lv_astore (lv' := [(6, .ref q9), (0, .ref lq), (1, .int (nI 22)), (2, .int a), (3, .int b), (4, .int cv), (5, .int dv)]) hx hb dL_call_234 hl (by decide) rfl (fun ls hl => ?_)
      refine lv_sipush (v := zI (-2012)) hx hb dL_call_236 (by decide) ?_
      exact gRi F dL_call_239 rfl u ⟨rfl, hp⟩ (gPl hP) (gDl hD) hS (by have h9 := hb1.2.2.1; omega) (by have h9 := hb1.2.2.2.1; omega)
    · refine vx_catch (own := RL) (name := gIS) (E := gIS) F.2.2.2.2.2.1 [⟨0, 227, 228, 66⟩, ⟨0, 227, 234, 68⟩] ⟨0, 227, 240, 70⟩ [] (by rw [htb]; rfl) (List.forall_mem_cons.mpr ⟨Or.inr ⟨by decide, gIO, F.2.2.2.2.2.2.1 (.classLink RL 66 gIO) (by decide +kernel), hKK.2.2.2.2.2.2.1 (gIS, gIO) (by decide +kernel)⟩, List.forall_mem_cons.mpr ⟨Or.inr ⟨by decide, gIA, F.2.2.2.2.2.2.1 (.classLink RL 68 gIA) (by decide +kernel), hKK.2.2.2.2.2.2.1 (gIS, gIA) (by decide +kernel)⟩, fun _ h_ => by cases h_⟩⟩) rfl (by decide) (F.2.2.2.2.2.2.1 (.classLink RL 70 gIS) (by decide +kernel)) (va_Nw.use rfl (hKK.2.2.2.2.2.1 (gIS, gIS) (by decide +kernel))) hce hcv hcl ?_
      refine lv_astore (lv' := [(6, .ref q9), (0, .ref lq), (1, .int (nI 22)), (2, .int a), (3, .int b), (4, .int cv), (5, .int dv)]) hx hb dL_call_240 hl (by decide) rfl (fun ls hl => ?_)
      refine lv_sipush (v := zI (-2013)) hx hb dL_call_242 (by decide) ?_
      exact gRi F dL_call_245 rfl u ⟨rfl, hp⟩ (gPl hP) (gDl hD) hS (by have h9 := hb1.2.2.1; omega) (by have h9 := hb1.2.2.2.1; omega)

set_option maxHeartbeats 4000000 in
set_option maxRecDepth 100000 in
theorem call_23 (l : Launch) (G : gG) (lq : Nat) (S S' : SpT) (a b cv dv : Int32) (r : Int) (h : DoS l G lq yL_owned wsL_owned [.int (nI 23), .int a, .int b] S r S') : LW l G lq yL_call wsL_call { frames := 9, cells := 4, slots := 528, locals := 230 } [.int (nI 23), .int a, .int b, .int cv, .int dv] S (zI r) S' 4 528 := by
  intro wv hC
  refine gMw_mk (cc := cL_call) (nL := 7) (ret := some .int) (hh := [(0, 227, 228, 66), (0, 227, 234, 68), (0, 227, 240, 70)]) (Qc := fun A => va_Qi (S := va_W) (fun r' u => r' = zI r ∧ clS G lq u S') (gB G A (fun u => u)) A) (by decide) rfl (Nat.le_of_ble_eq_true rfl) ?_
  intro p e s m args below meth c A F htb hZ ls hl hP hD hS
  have hx := F.1
  have hb := F.2.1
  have hts := F.2.2.2.2.2.2.1
  have hKK := F.2.2.2.2.2.2.2.2.1
  have hl : lv_has ls 7 [(0, .ref lq), (1, .int (nI 23)), (2, .int a), (3, .int b), (4, .int cv), (5, .int dv)] := hl
  have hP : va_P G.1 vwCl (wv ++ []) s.heap := by rw [List.append_nil]; exact hP
  have hD : va_D A (wv ++ []) := by rw [List.append_nil]; exact hD
  generalize hH : s.heap = H at hP ⊢
  have hS0 : va_S A s.heap H [] := by rw [← hH]; exact va_S.rf
  clear hS
  have hS := hS0
  clear hS0
  generalize hLo : ([] : List Loc) = locs at hS ⊢
  refine lv_iload_n hx hb dL_call_0 rfl (lv_at hl 1 rfl) ?_
  refine bZT_ne (tgt := 17) hx hb dL_call_1 (by decide) (by decide) ?_
  refine lv_iload_n hx hb dL_call_17 rfl (lv_at hl 1 rfl) ?_
  refine lv_iconst (v := nI 1) hx hb dL_call_18 (by decide) ?_
  refine bIT_ne (tgt := 35) hx hb dL_call_19 (by decide) (by decide) ?_
  refine lv_iload_n hx hb dL_call_35 rfl (lv_at hl 1 rfl) ?_
  refine lv_iconst (v := nI 2) hx hb dL_call_36 (by decide) ?_
  refine bIT_ne (tgt := 48) hx hb dL_call_37 (by decide) (by decide) ?_
  refine lv_iload_n hx hb dL_call_48 rfl (lv_at hl 1 rfl) ?_
  refine lv_iconst (v := nI 3) hx hb dL_call_49 (by decide) ?_
  refine bIT_ne (tgt := 64) hx hb dL_call_50 (by decide) (by decide) ?_
  refine lv_iload_n hx hb dL_call_64 rfl (lv_at hl 1 rfl) ?_
  refine lv_iconst (v := nI 4) hx hb dL_call_65 (by decide) ?_
  refine bIT_ne (tgt := 82) hx hb dL_call_66 (by decide) (by decide) ?_
  refine lv_iload_n hx hb dL_call_82 rfl (lv_at hl 1 rfl) ?_
  refine lv_iconst (v := nI 5) hx hb dL_call_83 (by decide) ?_
  refine bIT_ne (tgt := 95) hx hb dL_call_84 (by decide) (by decide) ?_
  refine lv_iload_n hx hb dL_call_95 rfl (lv_at hl 1 rfl) ?_
  refine lv_bipush (v := nI 6) hx hb dL_call_96 (by decide) ?_
  refine bIT_ne (tgt := 109) hx hb dL_call_98 (by decide) (by decide) ?_
  refine lv_iload_n hx hb dL_call_109 rfl (lv_at hl 1 rfl) ?_
  refine lv_bipush (v := nI 7) hx hb dL_call_110 (by decide) ?_
  refine bIT_ne (tgt := 123) hx hb dL_call_112 (by decide) (by decide) ?_
  refine lv_iload_n hx hb dL_call_123 rfl (lv_at hl 1 rfl) ?_
  refine lv_bipush (v := nI 8) hx hb dL_call_124 (by decide) ?_
  refine bIT_ne (tgt := 136) hx hb dL_call_126 (by decide) (by decide) ?_
  refine lv_iload_n hx hb dL_call_136 rfl (lv_at hl 1 rfl) ?_
  refine lv_bipush (v := nI 9) hx hb dL_call_137 (by decide) ?_
  refine bIT_ne (tgt := 149) hx hb dL_call_139 (by decide) (by decide) ?_
  refine lv_iload_n hx hb dL_call_149 rfl (lv_at hl 1 rfl) ?_
  refine lv_bipush (v := nI 10) hx hb dL_call_150 (by decide) ?_
  refine bIT_ne (tgt := 163) hx hb dL_call_152 (by decide) (by decide) ?_
  refine lv_iload_n hx hb dL_call_163 rfl (lv_at hl 1 rfl) ?_
  refine lv_bipush (v := nI 11) hx hb dL_call_164 (by decide) ?_
  refine bIT_ne (tgt := 177) hx hb dL_call_166 (by decide) (by decide) ?_
  refine lv_iload_n hx hb dL_call_177 rfl (lv_at hl 1 rfl) ?_
  refine lv_bipush (v := nI 17) hx hb dL_call_178 (by decide) ?_
  refine bIT_ge (tgt := 193) hx hb dL_call_180 (by decide) (by decide) ?_
  refine lv_iload_n hx hb dL_call_193 rfl (lv_at hl 1 rfl) ?_
  refine lv_bipush (v := nI 29) hx hb dL_call_194 (by decide) ?_
  refine bIF_ge (tgt := 209) hx hb dL_call_196 (by decide) (by decide) ?_
  refine lv_aload_n hx hb dL_call_199 rfl (lv_at hl 0 rfl) ?_
  refine lv_iload_n hx hb dL_call_200 rfl (lv_at hl 1 rfl) ?_
  refine lv_iload_n hx hb dL_call_201 rfl (lv_at hl 2 rfl) ?_
  refine lv_iload_n hx hb dL_call_202 rfl (lv_at hl 3 rfl) ?_
  rcases h with ⟨rm, mc, ms, hb1, hM⟩ | ⟨E, rm, mc, ms, hb1, rfl, hE, hM⟩
  · refine lqS (own := RL) (index := 57) (bytes := cL_owned) (n := 4) (As := [.int (nI 23), .int a, .int b]) (rest := []) (c2 := 4) (s2 := 528) F hZ hM hC gL_call_L_owned rfl rfl hb1.1 hb1.2.1 (by decide +kernel) rfl ⟨by have h9 := hb1.2.2.2.2.1; show rm.frames + 1 ≤ 9; omega, by have h9 := hb1.2.2.2.2.2; show 8 + (4 + 11) + rm.locals ≤ 230; omega⟩ hP hD hS rfl hl.1 (Nat.le_of_ble_eq_true rfl) dL_call_203 ⟨by have h9 := hb1.2.2.1; omega, by have h9 := hb1.2.2.2.1; omega⟩ ⟨Nat.le_of_ble_eq_true rfl, Nat.le_of_ble_eq_true rfl⟩ (fun u H locs hC hP hD hS => ?_)
    refine lv_goto (tgt := 227) hx hb dL_call_206 (by decide) ?_
    exact gRi F dL_call_227 rfl u ⟨rfl, hC⟩ (gPl hP) (gDl hD) hS (Nat.le_of_ble_eq_true rfl) (Nat.le_of_ble_eq_true rfl)
  · obtain ⟨fs, h0⟩ := cl_recv hC
    refine gXrun F (gRunSx (own := RL) (bytes := cL_owned) (n := 4) (As := [.ref lq, .int (nI 23), .int a, .int b]) (rest := []) F hZ hS (hM wv hC H.size) gL_call_L_owned rfl rfl hb1.1 hb1.2.1 (by decide +kernel) rfl ⟨by have h9 := hb1.2.2.2.2.1; show rm.frames + 1 ≤ 9; omega, by have h9 := hb1.2.2.2.2.2; show 8 + (4 + 11) + rm.locals ≤ 230; omega⟩ hP hD (lit := wv) (wt := []) (wc := wv) (isC := List.range wv.length) (gRange wv) (gRange_nd _) rfl hl.1 (Nat.le_of_ble_eq_true rfl) dL_call_203 ⟨by have h9 := hb1.2.2.1; show 0 + mc ≤ 4; omega, by have h9 := hb1.2.2.2.1; show 0 + ms ≤ 528; omega⟩) hP hD hS (lit := wv) (wt := []) (wc := wv) (isC := List.range wv.length) (wr := []) (isR := []) (gRange wv) rfl rfl (fun _ h_ => by cases h_) (fun ce q9 u H locs hp hP hD hS hce hcv hcl => ?_)
    have hP : va_P G.1 vwCl (u ++ []) H := hP
    have hD : va_D A (u ++ []) := hD
    rcases hE with ⟨rfl, rfl⟩ | ⟨rfl, rfl⟩ | ⟨rfl, rfl⟩
    · refine vx_catch (own := RL) (name := gIO) (E := gIO) F.2.2.2.2.2.1 [] ⟨0, 227, 228, 66⟩ [⟨0, 227, 234, 68⟩, ⟨0, 227, 240, 70⟩] (by rw [htb]; rfl) (fun _ h_ => by cases h_) rfl (by decide) (F.2.2.2.2.2.2.1 (.classLink RL 66 gIO) (by decide +kernel)) (va_Nw.use rfl (hKK.2.2.2.2.2.1 (gIO, gIO) (by decide +kernel))) hce hcv hcl ?_
      refine lv_astore (lv' := [(6, .ref q9), (0, .ref lq), (1, .int (nI 23)), (2, .int a), (3, .int b), (4, .int cv), (5, .int dv)]) hx hb dL_call_228 hl (by decide) rfl (fun ls hl => ?_)
      refine lv_sipush (v := zI (-2011)) hx hb dL_call_230 (by decide) ?_
      exact gRi F dL_call_233 rfl u ⟨rfl, hp⟩ (gPl hP) (gDl hD) hS (by have h9 := hb1.2.2.1; omega) (by have h9 := hb1.2.2.2.1; omega)
    · refine vx_catch (own := RL) (name := gIA) (E := gIA) F.2.2.2.2.2.1 [⟨0, 227, 228, 66⟩] ⟨0, 227, 234, 68⟩ [⟨0, 227, 240, 70⟩] (by rw [htb]; rfl) (List.forall_mem_cons.mpr ⟨Or.inr ⟨by decide, gIO, F.2.2.2.2.2.2.1 (.classLink RL 66 gIO) (by decide +kernel), hKK.2.2.2.2.2.2.1 (gIA, gIO) (by decide +kernel)⟩, fun _ h_ => by cases h_⟩) rfl (by decide) (F.2.2.2.2.2.2.1 (.classLink RL 68 gIA) (by decide +kernel)) (va_Nw.use rfl (hKK.2.2.2.2.2.1 (gIA, gIA) (by decide +kernel))) hce hcv hcl ?_
      refine lv_astore (lv' := [(6, .ref q9), (0, .ref lq), (1, .int (nI 23)), (2, .int a), (3, .int b), (4, .int cv), (5, .int dv)]) hx hb dL_call_234 hl (by decide) rfl (fun ls hl => ?_)
      refine lv_sipush (v := zI (-2012)) hx hb dL_call_236 (by decide) ?_
      exact gRi F dL_call_239 rfl u ⟨rfl, hp⟩ (gPl hP) (gDl hD) hS (by have h9 := hb1.2.2.1; omega) (by have h9 := hb1.2.2.2.1; omega)
    · refine vx_catch (own := RL) (name := gIS) (E := gIS) F.2.2.2.2.2.1 [⟨0, 227, 228, 66⟩, ⟨0, 227, 234, 68⟩] ⟨0, 227, 240, 70⟩ [] (by rw [htb]; rfl) (List.forall_mem_cons.mpr ⟨Or.inr ⟨by decide, gIO, F.2.2.2.2.2.2.1 (.classLink RL 66 gIO) (by decide +kernel), hKK.2.2.2.2.2.2.1 (gIS, gIO) (by decide +kernel)⟩, List.forall_mem_cons.mpr ⟨Or.inr ⟨by decide, gIA, F.2.2.2.2.2.2.1 (.classLink RL 68 gIA) (by decide +kernel), hKK.2.2.2.2.2.2.1 (gIS, gIA) (by decide +kernel)⟩, fun _ h_ => by cases h_⟩⟩) rfl (by decide) (F.2.2.2.2.2.2.1 (.classLink RL 70 gIS) (by decide +kernel)) (va_Nw.use rfl (hKK.2.2.2.2.2.1 (gIS, gIS) (by decide +kernel))) hce hcv hcl ?_
      refine lv_astore (lv' := [(6, .ref q9), (0, .ref lq), (1, .int (nI 23)), (2, .int a), (3, .int b), (4, .int cv), (5, .int dv)]) hx hb dL_call_240 hl (by decide) rfl (fun ls hl => ?_)
      refine lv_sipush (v := zI (-2013)) hx hb dL_call_242 (by decide) ?_
      exact gRi F dL_call_245 rfl u ⟨rfl, hp⟩ (gPl hP) (gDl hD) hS (by have h9 := hb1.2.2.1; omega) (by have h9 := hb1.2.2.2.1; omega)

set_option maxHeartbeats 4000000 in
set_option maxRecDepth 100000 in
theorem call_24 (l : Launch) (G : gG) (lq : Nat) (S S' : SpT) (a b cv dv : Int32) (r : Int) (h : DoS l G lq yL_owned wsL_owned [.int (nI 24), .int a, .int b] S r S') : LW l G lq yL_call wsL_call { frames := 9, cells := 4, slots := 528, locals := 230 } [.int (nI 24), .int a, .int b, .int cv, .int dv] S (zI r) S' 4 528 := by
  intro wv hC
  refine gMw_mk (cc := cL_call) (nL := 7) (ret := some .int) (hh := [(0, 227, 228, 66), (0, 227, 234, 68), (0, 227, 240, 70)]) (Qc := fun A => va_Qi (S := va_W) (fun r' u => r' = zI r ∧ clS G lq u S') (gB G A (fun u => u)) A) (by decide) rfl (Nat.le_of_ble_eq_true rfl) ?_
  intro p e s m args below meth c A F htb hZ ls hl hP hD hS
  have hx := F.1
  have hb := F.2.1
  have hts := F.2.2.2.2.2.2.1
  have hKK := F.2.2.2.2.2.2.2.2.1
  have hl : lv_has ls 7 [(0, .ref lq), (1, .int (nI 24)), (2, .int a), (3, .int b), (4, .int cv), (5, .int dv)] := hl
  have hP : va_P G.1 vwCl (wv ++ []) s.heap := by rw [List.append_nil]; exact hP
  have hD : va_D A (wv ++ []) := by rw [List.append_nil]; exact hD
  generalize hH : s.heap = H at hP ⊢
  have hS0 : va_S A s.heap H [] := by rw [← hH]; exact va_S.rf
  clear hS
  have hS := hS0
  clear hS0
  generalize hLo : ([] : List Loc) = locs at hS ⊢
  refine lv_iload_n hx hb dL_call_0 rfl (lv_at hl 1 rfl) ?_
  refine bZT_ne (tgt := 17) hx hb dL_call_1 (by decide) (by decide) ?_
  refine lv_iload_n hx hb dL_call_17 rfl (lv_at hl 1 rfl) ?_
  refine lv_iconst (v := nI 1) hx hb dL_call_18 (by decide) ?_
  refine bIT_ne (tgt := 35) hx hb dL_call_19 (by decide) (by decide) ?_
  refine lv_iload_n hx hb dL_call_35 rfl (lv_at hl 1 rfl) ?_
  refine lv_iconst (v := nI 2) hx hb dL_call_36 (by decide) ?_
  refine bIT_ne (tgt := 48) hx hb dL_call_37 (by decide) (by decide) ?_
  refine lv_iload_n hx hb dL_call_48 rfl (lv_at hl 1 rfl) ?_
  refine lv_iconst (v := nI 3) hx hb dL_call_49 (by decide) ?_
  refine bIT_ne (tgt := 64) hx hb dL_call_50 (by decide) (by decide) ?_
  refine lv_iload_n hx hb dL_call_64 rfl (lv_at hl 1 rfl) ?_
  refine lv_iconst (v := nI 4) hx hb dL_call_65 (by decide) ?_
  refine bIT_ne (tgt := 82) hx hb dL_call_66 (by decide) (by decide) ?_
  refine lv_iload_n hx hb dL_call_82 rfl (lv_at hl 1 rfl) ?_
  refine lv_iconst (v := nI 5) hx hb dL_call_83 (by decide) ?_
  refine bIT_ne (tgt := 95) hx hb dL_call_84 (by decide) (by decide) ?_
  refine lv_iload_n hx hb dL_call_95 rfl (lv_at hl 1 rfl) ?_
  refine lv_bipush (v := nI 6) hx hb dL_call_96 (by decide) ?_
  refine bIT_ne (tgt := 109) hx hb dL_call_98 (by decide) (by decide) ?_
  refine lv_iload_n hx hb dL_call_109 rfl (lv_at hl 1 rfl) ?_
  refine lv_bipush (v := nI 7) hx hb dL_call_110 (by decide) ?_
  refine bIT_ne (tgt := 123) hx hb dL_call_112 (by decide) (by decide) ?_
  refine lv_iload_n hx hb dL_call_123 rfl (lv_at hl 1 rfl) ?_
  refine lv_bipush (v := nI 8) hx hb dL_call_124 (by decide) ?_
  refine bIT_ne (tgt := 136) hx hb dL_call_126 (by decide) (by decide) ?_
  refine lv_iload_n hx hb dL_call_136 rfl (lv_at hl 1 rfl) ?_
  refine lv_bipush (v := nI 9) hx hb dL_call_137 (by decide) ?_
  refine bIT_ne (tgt := 149) hx hb dL_call_139 (by decide) (by decide) ?_
  refine lv_iload_n hx hb dL_call_149 rfl (lv_at hl 1 rfl) ?_
  refine lv_bipush (v := nI 10) hx hb dL_call_150 (by decide) ?_
  refine bIT_ne (tgt := 163) hx hb dL_call_152 (by decide) (by decide) ?_
  refine lv_iload_n hx hb dL_call_163 rfl (lv_at hl 1 rfl) ?_
  refine lv_bipush (v := nI 11) hx hb dL_call_164 (by decide) ?_
  refine bIT_ne (tgt := 177) hx hb dL_call_166 (by decide) (by decide) ?_
  refine lv_iload_n hx hb dL_call_177 rfl (lv_at hl 1 rfl) ?_
  refine lv_bipush (v := nI 17) hx hb dL_call_178 (by decide) ?_
  refine bIT_ge (tgt := 193) hx hb dL_call_180 (by decide) (by decide) ?_
  refine lv_iload_n hx hb dL_call_193 rfl (lv_at hl 1 rfl) ?_
  refine lv_bipush (v := nI 29) hx hb dL_call_194 (by decide) ?_
  refine bIF_ge (tgt := 209) hx hb dL_call_196 (by decide) (by decide) ?_
  refine lv_aload_n hx hb dL_call_199 rfl (lv_at hl 0 rfl) ?_
  refine lv_iload_n hx hb dL_call_200 rfl (lv_at hl 1 rfl) ?_
  refine lv_iload_n hx hb dL_call_201 rfl (lv_at hl 2 rfl) ?_
  refine lv_iload_n hx hb dL_call_202 rfl (lv_at hl 3 rfl) ?_
  rcases h with ⟨rm, mc, ms, hb1, hM⟩ | ⟨E, rm, mc, ms, hb1, rfl, hE, hM⟩
  · refine lqS (own := RL) (index := 57) (bytes := cL_owned) (n := 4) (As := [.int (nI 24), .int a, .int b]) (rest := []) (c2 := 4) (s2 := 528) F hZ hM hC gL_call_L_owned rfl rfl hb1.1 hb1.2.1 (by decide +kernel) rfl ⟨by have h9 := hb1.2.2.2.2.1; show rm.frames + 1 ≤ 9; omega, by have h9 := hb1.2.2.2.2.2; show 8 + (4 + 11) + rm.locals ≤ 230; omega⟩ hP hD hS rfl hl.1 (Nat.le_of_ble_eq_true rfl) dL_call_203 ⟨by have h9 := hb1.2.2.1; omega, by have h9 := hb1.2.2.2.1; omega⟩ ⟨Nat.le_of_ble_eq_true rfl, Nat.le_of_ble_eq_true rfl⟩ (fun u H locs hC hP hD hS => ?_)
    refine lv_goto (tgt := 227) hx hb dL_call_206 (by decide) ?_
    exact gRi F dL_call_227 rfl u ⟨rfl, hC⟩ (gPl hP) (gDl hD) hS (Nat.le_of_ble_eq_true rfl) (Nat.le_of_ble_eq_true rfl)
  · obtain ⟨fs, h0⟩ := cl_recv hC
    refine gXrun F (gRunSx (own := RL) (bytes := cL_owned) (n := 4) (As := [.ref lq, .int (nI 24), .int a, .int b]) (rest := []) F hZ hS (hM wv hC H.size) gL_call_L_owned rfl rfl hb1.1 hb1.2.1 (by decide +kernel) rfl ⟨by have h9 := hb1.2.2.2.2.1; show rm.frames + 1 ≤ 9; omega, by have h9 := hb1.2.2.2.2.2; show 8 + (4 + 11) + rm.locals ≤ 230; omega⟩ hP hD (lit := wv) (wt := []) (wc := wv) (isC := List.range wv.length) (gRange wv) (gRange_nd _) rfl hl.1 (Nat.le_of_ble_eq_true rfl) dL_call_203 ⟨by have h9 := hb1.2.2.1; show 0 + mc ≤ 4; omega, by have h9 := hb1.2.2.2.1; show 0 + ms ≤ 528; omega⟩) hP hD hS (lit := wv) (wt := []) (wc := wv) (isC := List.range wv.length) (wr := []) (isR := []) (gRange wv) rfl rfl (fun _ h_ => by cases h_) (fun ce q9 u H locs hp hP hD hS hce hcv hcl => ?_)
    have hP : va_P G.1 vwCl (u ++ []) H := hP
    have hD : va_D A (u ++ []) := hD
    rcases hE with ⟨rfl, rfl⟩ | ⟨rfl, rfl⟩ | ⟨rfl, rfl⟩
    · refine vx_catch (own := RL) (name := gIO) (E := gIO) F.2.2.2.2.2.1 [] ⟨0, 227, 228, 66⟩ [⟨0, 227, 234, 68⟩, ⟨0, 227, 240, 70⟩] (by rw [htb]; rfl) (fun _ h_ => by cases h_) rfl (by decide) (F.2.2.2.2.2.2.1 (.classLink RL 66 gIO) (by decide +kernel)) (va_Nw.use rfl (hKK.2.2.2.2.2.1 (gIO, gIO) (by decide +kernel))) hce hcv hcl ?_
      refine lv_astore (lv' := [(6, .ref q9), (0, .ref lq), (1, .int (nI 24)), (2, .int a), (3, .int b), (4, .int cv), (5, .int dv)]) hx hb dL_call_228 hl (by decide) rfl (fun ls hl => ?_)
      refine lv_sipush (v := zI (-2011)) hx hb dL_call_230 (by decide) ?_
      exact gRi F dL_call_233 rfl u ⟨rfl, hp⟩ (gPl hP) (gDl hD) hS (by have h9 := hb1.2.2.1; omega) (by have h9 := hb1.2.2.2.1; omega)
    · refine vx_catch (own := RL) (name := gIA) (E := gIA) F.2.2.2.2.2.1 [⟨0, 227, 228, 66⟩] ⟨0, 227, 234, 68⟩ [⟨0, 227, 240, 70⟩] (by rw [htb]; rfl) (List.forall_mem_cons.mpr ⟨Or.inr ⟨by decide, gIO, F.2.2.2.2.2.2.1 (.classLink RL 66 gIO) (by decide +kernel), hKK.2.2.2.2.2.2.1 (gIA, gIO) (by decide +kernel)⟩, fun _ h_ => by cases h_⟩) rfl (by decide) (F.2.2.2.2.2.2.1 (.classLink RL 68 gIA) (by decide +kernel)) (va_Nw.use rfl (hKK.2.2.2.2.2.1 (gIA, gIA) (by decide +kernel))) hce hcv hcl ?_
      refine lv_astore (lv' := [(6, .ref q9), (0, .ref lq), (1, .int (nI 24)), (2, .int a), (3, .int b), (4, .int cv), (5, .int dv)]) hx hb dL_call_234 hl (by decide) rfl (fun ls hl => ?_)
      refine lv_sipush (v := zI (-2012)) hx hb dL_call_236 (by decide) ?_
      exact gRi F dL_call_239 rfl u ⟨rfl, hp⟩ (gPl hP) (gDl hD) hS (by have h9 := hb1.2.2.1; omega) (by have h9 := hb1.2.2.2.1; omega)
    · refine vx_catch (own := RL) (name := gIS) (E := gIS) F.2.2.2.2.2.1 [⟨0, 227, 228, 66⟩, ⟨0, 227, 234, 68⟩] ⟨0, 227, 240, 70⟩ [] (by rw [htb]; rfl) (List.forall_mem_cons.mpr ⟨Or.inr ⟨by decide, gIO, F.2.2.2.2.2.2.1 (.classLink RL 66 gIO) (by decide +kernel), hKK.2.2.2.2.2.2.1 (gIS, gIO) (by decide +kernel)⟩, List.forall_mem_cons.mpr ⟨Or.inr ⟨by decide, gIA, F.2.2.2.2.2.2.1 (.classLink RL 68 gIA) (by decide +kernel), hKK.2.2.2.2.2.2.1 (gIS, gIA) (by decide +kernel)⟩, fun _ h_ => by cases h_⟩⟩) rfl (by decide) (F.2.2.2.2.2.2.1 (.classLink RL 70 gIS) (by decide +kernel)) (va_Nw.use rfl (hKK.2.2.2.2.2.1 (gIS, gIS) (by decide +kernel))) hce hcv hcl ?_
      refine lv_astore (lv' := [(6, .ref q9), (0, .ref lq), (1, .int (nI 24)), (2, .int a), (3, .int b), (4, .int cv), (5, .int dv)]) hx hb dL_call_240 hl (by decide) rfl (fun ls hl => ?_)
      refine lv_sipush (v := zI (-2013)) hx hb dL_call_242 (by decide) ?_
      exact gRi F dL_call_245 rfl u ⟨rfl, hp⟩ (gPl hP) (gDl hD) hS (by have h9 := hb1.2.2.1; omega) (by have h9 := hb1.2.2.2.1; omega)

set_option maxHeartbeats 4000000 in
set_option maxRecDepth 100000 in
theorem call_25 (l : Launch) (G : gG) (lq : Nat) (S S' : SpT) (a b cv dv : Int32) (r : Int) (h : DoS l G lq yL_owned wsL_owned [.int (nI 25), .int a, .int b] S r S') : LW l G lq yL_call wsL_call { frames := 9, cells := 4, slots := 528, locals := 230 } [.int (nI 25), .int a, .int b, .int cv, .int dv] S (zI r) S' 4 528 := by
  intro wv hC
  refine gMw_mk (cc := cL_call) (nL := 7) (ret := some .int) (hh := [(0, 227, 228, 66), (0, 227, 234, 68), (0, 227, 240, 70)]) (Qc := fun A => va_Qi (S := va_W) (fun r' u => r' = zI r ∧ clS G lq u S') (gB G A (fun u => u)) A) (by decide) rfl (Nat.le_of_ble_eq_true rfl) ?_
  intro p e s m args below meth c A F htb hZ ls hl hP hD hS
  have hx := F.1
  have hb := F.2.1
  have hts := F.2.2.2.2.2.2.1
  have hKK := F.2.2.2.2.2.2.2.2.1
  have hl : lv_has ls 7 [(0, .ref lq), (1, .int (nI 25)), (2, .int a), (3, .int b), (4, .int cv), (5, .int dv)] := hl
  have hP : va_P G.1 vwCl (wv ++ []) s.heap := by rw [List.append_nil]; exact hP
  have hD : va_D A (wv ++ []) := by rw [List.append_nil]; exact hD
  generalize hH : s.heap = H at hP ⊢
  have hS0 : va_S A s.heap H [] := by rw [← hH]; exact va_S.rf
  clear hS
  have hS := hS0
  clear hS0
  generalize hLo : ([] : List Loc) = locs at hS ⊢
  refine lv_iload_n hx hb dL_call_0 rfl (lv_at hl 1 rfl) ?_
  refine bZT_ne (tgt := 17) hx hb dL_call_1 (by decide) (by decide) ?_
  refine lv_iload_n hx hb dL_call_17 rfl (lv_at hl 1 rfl) ?_
  refine lv_iconst (v := nI 1) hx hb dL_call_18 (by decide) ?_
  refine bIT_ne (tgt := 35) hx hb dL_call_19 (by decide) (by decide) ?_
  refine lv_iload_n hx hb dL_call_35 rfl (lv_at hl 1 rfl) ?_
  refine lv_iconst (v := nI 2) hx hb dL_call_36 (by decide) ?_
  refine bIT_ne (tgt := 48) hx hb dL_call_37 (by decide) (by decide) ?_
  refine lv_iload_n hx hb dL_call_48 rfl (lv_at hl 1 rfl) ?_
  refine lv_iconst (v := nI 3) hx hb dL_call_49 (by decide) ?_
  refine bIT_ne (tgt := 64) hx hb dL_call_50 (by decide) (by decide) ?_
  refine lv_iload_n hx hb dL_call_64 rfl (lv_at hl 1 rfl) ?_
  refine lv_iconst (v := nI 4) hx hb dL_call_65 (by decide) ?_
  refine bIT_ne (tgt := 82) hx hb dL_call_66 (by decide) (by decide) ?_
  refine lv_iload_n hx hb dL_call_82 rfl (lv_at hl 1 rfl) ?_
  refine lv_iconst (v := nI 5) hx hb dL_call_83 (by decide) ?_
  refine bIT_ne (tgt := 95) hx hb dL_call_84 (by decide) (by decide) ?_
  refine lv_iload_n hx hb dL_call_95 rfl (lv_at hl 1 rfl) ?_
  refine lv_bipush (v := nI 6) hx hb dL_call_96 (by decide) ?_
  refine bIT_ne (tgt := 109) hx hb dL_call_98 (by decide) (by decide) ?_
  refine lv_iload_n hx hb dL_call_109 rfl (lv_at hl 1 rfl) ?_
  refine lv_bipush (v := nI 7) hx hb dL_call_110 (by decide) ?_
  refine bIT_ne (tgt := 123) hx hb dL_call_112 (by decide) (by decide) ?_
  refine lv_iload_n hx hb dL_call_123 rfl (lv_at hl 1 rfl) ?_
  refine lv_bipush (v := nI 8) hx hb dL_call_124 (by decide) ?_
  refine bIT_ne (tgt := 136) hx hb dL_call_126 (by decide) (by decide) ?_
  refine lv_iload_n hx hb dL_call_136 rfl (lv_at hl 1 rfl) ?_
  refine lv_bipush (v := nI 9) hx hb dL_call_137 (by decide) ?_
  refine bIT_ne (tgt := 149) hx hb dL_call_139 (by decide) (by decide) ?_
  refine lv_iload_n hx hb dL_call_149 rfl (lv_at hl 1 rfl) ?_
  refine lv_bipush (v := nI 10) hx hb dL_call_150 (by decide) ?_
  refine bIT_ne (tgt := 163) hx hb dL_call_152 (by decide) (by decide) ?_
  refine lv_iload_n hx hb dL_call_163 rfl (lv_at hl 1 rfl) ?_
  refine lv_bipush (v := nI 11) hx hb dL_call_164 (by decide) ?_
  refine bIT_ne (tgt := 177) hx hb dL_call_166 (by decide) (by decide) ?_
  refine lv_iload_n hx hb dL_call_177 rfl (lv_at hl 1 rfl) ?_
  refine lv_bipush (v := nI 17) hx hb dL_call_178 (by decide) ?_
  refine bIT_ge (tgt := 193) hx hb dL_call_180 (by decide) (by decide) ?_
  refine lv_iload_n hx hb dL_call_193 rfl (lv_at hl 1 rfl) ?_
  refine lv_bipush (v := nI 29) hx hb dL_call_194 (by decide) ?_
  refine bIF_ge (tgt := 209) hx hb dL_call_196 (by decide) (by decide) ?_
  refine lv_aload_n hx hb dL_call_199 rfl (lv_at hl 0 rfl) ?_
  refine lv_iload_n hx hb dL_call_200 rfl (lv_at hl 1 rfl) ?_
  refine lv_iload_n hx hb dL_call_201 rfl (lv_at hl 2 rfl) ?_
  refine lv_iload_n hx hb dL_call_202 rfl (lv_at hl 3 rfl) ?_
  rcases h with ⟨rm, mc, ms, hb1, hM⟩ | ⟨E, rm, mc, ms, hb1, rfl, hE, hM⟩
  · refine lqS (own := RL) (index := 57) (bytes := cL_owned) (n := 4) (As := [.int (nI 25), .int a, .int b]) (rest := []) (c2 := 4) (s2 := 528) F hZ hM hC gL_call_L_owned rfl rfl hb1.1 hb1.2.1 (by decide +kernel) rfl ⟨by have h9 := hb1.2.2.2.2.1; show rm.frames + 1 ≤ 9; omega, by have h9 := hb1.2.2.2.2.2; show 8 + (4 + 11) + rm.locals ≤ 230; omega⟩ hP hD hS rfl hl.1 (Nat.le_of_ble_eq_true rfl) dL_call_203 ⟨by have h9 := hb1.2.2.1; omega, by have h9 := hb1.2.2.2.1; omega⟩ ⟨Nat.le_of_ble_eq_true rfl, Nat.le_of_ble_eq_true rfl⟩ (fun u H locs hC hP hD hS => ?_)
    refine lv_goto (tgt := 227) hx hb dL_call_206 (by decide) ?_
    exact gRi F dL_call_227 rfl u ⟨rfl, hC⟩ (gPl hP) (gDl hD) hS (Nat.le_of_ble_eq_true rfl) (Nat.le_of_ble_eq_true rfl)
  · obtain ⟨fs, h0⟩ := cl_recv hC
    refine gXrun F (gRunSx (own := RL) (bytes := cL_owned) (n := 4) (As := [.ref lq, .int (nI 25), .int a, .int b]) (rest := []) F hZ hS (hM wv hC H.size) gL_call_L_owned rfl rfl hb1.1 hb1.2.1 (by decide +kernel) rfl ⟨by have h9 := hb1.2.2.2.2.1; show rm.frames + 1 ≤ 9; omega, by have h9 := hb1.2.2.2.2.2; show 8 + (4 + 11) + rm.locals ≤ 230; omega⟩ hP hD (lit := wv) (wt := []) (wc := wv) (isC := List.range wv.length) (gRange wv) (gRange_nd _) rfl hl.1 (Nat.le_of_ble_eq_true rfl) dL_call_203 ⟨by have h9 := hb1.2.2.1; show 0 + mc ≤ 4; omega, by have h9 := hb1.2.2.2.1; show 0 + ms ≤ 528; omega⟩) hP hD hS (lit := wv) (wt := []) (wc := wv) (isC := List.range wv.length) (wr := []) (isR := []) (gRange wv) rfl rfl (fun _ h_ => by cases h_) (fun ce q9 u H locs hp hP hD hS hce hcv hcl => ?_)
    have hP : va_P G.1 vwCl (u ++ []) H := hP
    have hD : va_D A (u ++ []) := hD
    rcases hE with ⟨rfl, rfl⟩ | ⟨rfl, rfl⟩ | ⟨rfl, rfl⟩
    · refine vx_catch (own := RL) (name := gIO) (E := gIO) F.2.2.2.2.2.1 [] ⟨0, 227, 228, 66⟩ [⟨0, 227, 234, 68⟩, ⟨0, 227, 240, 70⟩] (by rw [htb]; rfl) (fun _ h_ => by cases h_) rfl (by decide) (F.2.2.2.2.2.2.1 (.classLink RL 66 gIO) (by decide +kernel)) (va_Nw.use rfl (hKK.2.2.2.2.2.1 (gIO, gIO) (by decide +kernel))) hce hcv hcl ?_
      refine lv_astore (lv' := [(6, .ref q9), (0, .ref lq), (1, .int (nI 25)), (2, .int a), (3, .int b), (4, .int cv), (5, .int dv)]) hx hb dL_call_228 hl (by decide) rfl (fun ls hl => ?_)
      refine lv_sipush (v := zI (-2011)) hx hb dL_call_230 (by decide) ?_
      exact gRi F dL_call_233 rfl u ⟨rfl, hp⟩ (gPl hP) (gDl hD) hS (by have h9 := hb1.2.2.1; omega) (by have h9 := hb1.2.2.2.1; omega)
    · refine vx_catch (own := RL) (name := gIA) (E := gIA) F.2.2.2.2.2.1 [⟨0, 227, 228, 66⟩] ⟨0, 227, 234, 68⟩ [⟨0, 227, 240, 70⟩] (by rw [htb]; rfl) (List.forall_mem_cons.mpr ⟨Or.inr ⟨by decide, gIO, F.2.2.2.2.2.2.1 (.classLink RL 66 gIO) (by decide +kernel), hKK.2.2.2.2.2.2.1 (gIA, gIO) (by decide +kernel)⟩, fun _ h_ => by cases h_⟩) rfl (by decide) (F.2.2.2.2.2.2.1 (.classLink RL 68 gIA) (by decide +kernel)) (va_Nw.use rfl (hKK.2.2.2.2.2.1 (gIA, gIA) (by decide +kernel))) hce hcv hcl ?_
      refine lv_astore (lv' := [(6, .ref q9), (0, .ref lq), (1, .int (nI 25)), (2, .int a), (3, .int b), (4, .int cv), (5, .int dv)]) hx hb dL_call_234 hl (by decide) rfl (fun ls hl => ?_)
      refine lv_sipush (v := zI (-2012)) hx hb dL_call_236 (by decide) ?_
      exact gRi F dL_call_239 rfl u ⟨rfl, hp⟩ (gPl hP) (gDl hD) hS (by have h9 := hb1.2.2.1; omega) (by have h9 := hb1.2.2.2.1; omega)
    · refine vx_catch (own := RL) (name := gIS) (E := gIS) F.2.2.2.2.2.1 [⟨0, 227, 228, 66⟩, ⟨0, 227, 234, 68⟩] ⟨0, 227, 240, 70⟩ [] (by rw [htb]; rfl) (List.forall_mem_cons.mpr ⟨Or.inr ⟨by decide, gIO, F.2.2.2.2.2.2.1 (.classLink RL 66 gIO) (by decide +kernel), hKK.2.2.2.2.2.2.1 (gIS, gIO) (by decide +kernel)⟩, List.forall_mem_cons.mpr ⟨Or.inr ⟨by decide, gIA, F.2.2.2.2.2.2.1 (.classLink RL 68 gIA) (by decide +kernel), hKK.2.2.2.2.2.2.1 (gIS, gIA) (by decide +kernel)⟩, fun _ h_ => by cases h_⟩⟩) rfl (by decide) (F.2.2.2.2.2.2.1 (.classLink RL 70 gIS) (by decide +kernel)) (va_Nw.use rfl (hKK.2.2.2.2.2.1 (gIS, gIS) (by decide +kernel))) hce hcv hcl ?_
      refine lv_astore (lv' := [(6, .ref q9), (0, .ref lq), (1, .int (nI 25)), (2, .int a), (3, .int b), (4, .int cv), (5, .int dv)]) hx hb dL_call_240 hl (by decide) rfl (fun ls hl => ?_)
      refine lv_sipush (v := zI (-2013)) hx hb dL_call_242 (by decide) ?_
      exact gRi F dL_call_245 rfl u ⟨rfl, hp⟩ (gPl hP) (gDl hD) hS (by have h9 := hb1.2.2.1; omega) (by have h9 := hb1.2.2.2.1; omega)

set_option maxHeartbeats 4000000 in
set_option maxRecDepth 100000 in
theorem call_26 (l : Launch) (G : gG) (lq : Nat) (S S' : SpT) (a b cv dv : Int32) (r : Int) (h : DoS l G lq yL_owned wsL_owned [.int (nI 26), .int a, .int b] S r S') : LW l G lq yL_call wsL_call { frames := 9, cells := 4, slots := 528, locals := 230 } [.int (nI 26), .int a, .int b, .int cv, .int dv] S (zI r) S' 4 528 := by
  intro wv hC
  refine gMw_mk (cc := cL_call) (nL := 7) (ret := some .int) (hh := [(0, 227, 228, 66), (0, 227, 234, 68), (0, 227, 240, 70)]) (Qc := fun A => va_Qi (S := va_W) (fun r' u => r' = zI r ∧ clS G lq u S') (gB G A (fun u => u)) A) (by decide) rfl (Nat.le_of_ble_eq_true rfl) ?_
  intro p e s m args below meth c A F htb hZ ls hl hP hD hS
  have hx := F.1
  have hb := F.2.1
  have hts := F.2.2.2.2.2.2.1
  have hKK := F.2.2.2.2.2.2.2.2.1
  have hl : lv_has ls 7 [(0, .ref lq), (1, .int (nI 26)), (2, .int a), (3, .int b), (4, .int cv), (5, .int dv)] := hl
  have hP : va_P G.1 vwCl (wv ++ []) s.heap := by rw [List.append_nil]; exact hP
  have hD : va_D A (wv ++ []) := by rw [List.append_nil]; exact hD
  generalize hH : s.heap = H at hP ⊢
  have hS0 : va_S A s.heap H [] := by rw [← hH]; exact va_S.rf
  clear hS
  have hS := hS0
  clear hS0
  generalize hLo : ([] : List Loc) = locs at hS ⊢
  refine lv_iload_n hx hb dL_call_0 rfl (lv_at hl 1 rfl) ?_
  refine bZT_ne (tgt := 17) hx hb dL_call_1 (by decide) (by decide) ?_
  refine lv_iload_n hx hb dL_call_17 rfl (lv_at hl 1 rfl) ?_
  refine lv_iconst (v := nI 1) hx hb dL_call_18 (by decide) ?_
  refine bIT_ne (tgt := 35) hx hb dL_call_19 (by decide) (by decide) ?_
  refine lv_iload_n hx hb dL_call_35 rfl (lv_at hl 1 rfl) ?_
  refine lv_iconst (v := nI 2) hx hb dL_call_36 (by decide) ?_
  refine bIT_ne (tgt := 48) hx hb dL_call_37 (by decide) (by decide) ?_
  refine lv_iload_n hx hb dL_call_48 rfl (lv_at hl 1 rfl) ?_
  refine lv_iconst (v := nI 3) hx hb dL_call_49 (by decide) ?_
  refine bIT_ne (tgt := 64) hx hb dL_call_50 (by decide) (by decide) ?_
  refine lv_iload_n hx hb dL_call_64 rfl (lv_at hl 1 rfl) ?_
  refine lv_iconst (v := nI 4) hx hb dL_call_65 (by decide) ?_
  refine bIT_ne (tgt := 82) hx hb dL_call_66 (by decide) (by decide) ?_
  refine lv_iload_n hx hb dL_call_82 rfl (lv_at hl 1 rfl) ?_
  refine lv_iconst (v := nI 5) hx hb dL_call_83 (by decide) ?_
  refine bIT_ne (tgt := 95) hx hb dL_call_84 (by decide) (by decide) ?_
  refine lv_iload_n hx hb dL_call_95 rfl (lv_at hl 1 rfl) ?_
  refine lv_bipush (v := nI 6) hx hb dL_call_96 (by decide) ?_
  refine bIT_ne (tgt := 109) hx hb dL_call_98 (by decide) (by decide) ?_
  refine lv_iload_n hx hb dL_call_109 rfl (lv_at hl 1 rfl) ?_
  refine lv_bipush (v := nI 7) hx hb dL_call_110 (by decide) ?_
  refine bIT_ne (tgt := 123) hx hb dL_call_112 (by decide) (by decide) ?_
  refine lv_iload_n hx hb dL_call_123 rfl (lv_at hl 1 rfl) ?_
  refine lv_bipush (v := nI 8) hx hb dL_call_124 (by decide) ?_
  refine bIT_ne (tgt := 136) hx hb dL_call_126 (by decide) (by decide) ?_
  refine lv_iload_n hx hb dL_call_136 rfl (lv_at hl 1 rfl) ?_
  refine lv_bipush (v := nI 9) hx hb dL_call_137 (by decide) ?_
  refine bIT_ne (tgt := 149) hx hb dL_call_139 (by decide) (by decide) ?_
  refine lv_iload_n hx hb dL_call_149 rfl (lv_at hl 1 rfl) ?_
  refine lv_bipush (v := nI 10) hx hb dL_call_150 (by decide) ?_
  refine bIT_ne (tgt := 163) hx hb dL_call_152 (by decide) (by decide) ?_
  refine lv_iload_n hx hb dL_call_163 rfl (lv_at hl 1 rfl) ?_
  refine lv_bipush (v := nI 11) hx hb dL_call_164 (by decide) ?_
  refine bIT_ne (tgt := 177) hx hb dL_call_166 (by decide) (by decide) ?_
  refine lv_iload_n hx hb dL_call_177 rfl (lv_at hl 1 rfl) ?_
  refine lv_bipush (v := nI 17) hx hb dL_call_178 (by decide) ?_
  refine bIT_ge (tgt := 193) hx hb dL_call_180 (by decide) (by decide) ?_
  refine lv_iload_n hx hb dL_call_193 rfl (lv_at hl 1 rfl) ?_
  refine lv_bipush (v := nI 29) hx hb dL_call_194 (by decide) ?_
  refine bIF_ge (tgt := 209) hx hb dL_call_196 (by decide) (by decide) ?_
  refine lv_aload_n hx hb dL_call_199 rfl (lv_at hl 0 rfl) ?_
  refine lv_iload_n hx hb dL_call_200 rfl (lv_at hl 1 rfl) ?_
  refine lv_iload_n hx hb dL_call_201 rfl (lv_at hl 2 rfl) ?_
  refine lv_iload_n hx hb dL_call_202 rfl (lv_at hl 3 rfl) ?_
  rcases h with ⟨rm, mc, ms, hb1, hM⟩ | ⟨E, rm, mc, ms, hb1, rfl, hE, hM⟩
  · refine lqS (own := RL) (index := 57) (bytes := cL_owned) (n := 4) (As := [.int (nI 26), .int a, .int b]) (rest := []) (c2 := 4) (s2 := 528) F hZ hM hC gL_call_L_owned rfl rfl hb1.1 hb1.2.1 (by decide +kernel) rfl ⟨by have h9 := hb1.2.2.2.2.1; show rm.frames + 1 ≤ 9; omega, by have h9 := hb1.2.2.2.2.2; show 8 + (4 + 11) + rm.locals ≤ 230; omega⟩ hP hD hS rfl hl.1 (Nat.le_of_ble_eq_true rfl) dL_call_203 ⟨by have h9 := hb1.2.2.1; omega, by have h9 := hb1.2.2.2.1; omega⟩ ⟨Nat.le_of_ble_eq_true rfl, Nat.le_of_ble_eq_true rfl⟩ (fun u H locs hC hP hD hS => ?_)
    refine lv_goto (tgt := 227) hx hb dL_call_206 (by decide) ?_
    exact gRi F dL_call_227 rfl u ⟨rfl, hC⟩ (gPl hP) (gDl hD) hS (Nat.le_of_ble_eq_true rfl) (Nat.le_of_ble_eq_true rfl)
  · obtain ⟨fs, h0⟩ := cl_recv hC
    refine gXrun F (gRunSx (own := RL) (bytes := cL_owned) (n := 4) (As := [.ref lq, .int (nI 26), .int a, .int b]) (rest := []) F hZ hS (hM wv hC H.size) gL_call_L_owned rfl rfl hb1.1 hb1.2.1 (by decide +kernel) rfl ⟨by have h9 := hb1.2.2.2.2.1; show rm.frames + 1 ≤ 9; omega, by have h9 := hb1.2.2.2.2.2; show 8 + (4 + 11) + rm.locals ≤ 230; omega⟩ hP hD (lit := wv) (wt := []) (wc := wv) (isC := List.range wv.length) (gRange wv) (gRange_nd _) rfl hl.1 (Nat.le_of_ble_eq_true rfl) dL_call_203 ⟨by have h9 := hb1.2.2.1; show 0 + mc ≤ 4; omega, by have h9 := hb1.2.2.2.1; show 0 + ms ≤ 528; omega⟩) hP hD hS (lit := wv) (wt := []) (wc := wv) (isC := List.range wv.length) (wr := []) (isR := []) (gRange wv) rfl rfl (fun _ h_ => by cases h_) (fun ce q9 u H locs hp hP hD hS hce hcv hcl => ?_)
    have hP : va_P G.1 vwCl (u ++ []) H := hP
    have hD : va_D A (u ++ []) := hD
    rcases hE with ⟨rfl, rfl⟩ | ⟨rfl, rfl⟩ | ⟨rfl, rfl⟩
    · refine vx_catch (own := RL) (name := gIO) (E := gIO) F.2.2.2.2.2.1 [] ⟨0, 227, 228, 66⟩ [⟨0, 227, 234, 68⟩, ⟨0, 227, 240, 70⟩] (by rw [htb]; rfl) (fun _ h_ => by cases h_) rfl (by decide) (F.2.2.2.2.2.2.1 (.classLink RL 66 gIO) (by decide +kernel)) (va_Nw.use rfl (hKK.2.2.2.2.2.1 (gIO, gIO) (by decide +kernel))) hce hcv hcl ?_
      refine lv_astore (lv' := [(6, .ref q9), (0, .ref lq), (1, .int (nI 26)), (2, .int a), (3, .int b), (4, .int cv), (5, .int dv)]) hx hb dL_call_228 hl (by decide) rfl (fun ls hl => ?_)
      refine lv_sipush (v := zI (-2011)) hx hb dL_call_230 (by decide) ?_
      exact gRi F dL_call_233 rfl u ⟨rfl, hp⟩ (gPl hP) (gDl hD) hS (by have h9 := hb1.2.2.1; omega) (by have h9 := hb1.2.2.2.1; omega)
    · refine vx_catch (own := RL) (name := gIA) (E := gIA) F.2.2.2.2.2.1 [⟨0, 227, 228, 66⟩] ⟨0, 227, 234, 68⟩ [⟨0, 227, 240, 70⟩] (by rw [htb]; rfl) (List.forall_mem_cons.mpr ⟨Or.inr ⟨by decide, gIO, F.2.2.2.2.2.2.1 (.classLink RL 66 gIO) (by decide +kernel), hKK.2.2.2.2.2.2.1 (gIA, gIO) (by decide +kernel)⟩, fun _ h_ => by cases h_⟩) rfl (by decide) (F.2.2.2.2.2.2.1 (.classLink RL 68 gIA) (by decide +kernel)) (va_Nw.use rfl (hKK.2.2.2.2.2.1 (gIA, gIA) (by decide +kernel))) hce hcv hcl ?_
      refine lv_astore (lv' := [(6, .ref q9), (0, .ref lq), (1, .int (nI 26)), (2, .int a), (3, .int b), (4, .int cv), (5, .int dv)]) hx hb dL_call_234 hl (by decide) rfl (fun ls hl => ?_)
      refine lv_sipush (v := zI (-2012)) hx hb dL_call_236 (by decide) ?_
      exact gRi F dL_call_239 rfl u ⟨rfl, hp⟩ (gPl hP) (gDl hD) hS (by have h9 := hb1.2.2.1; omega) (by have h9 := hb1.2.2.2.1; omega)
    · refine vx_catch (own := RL) (name := gIS) (E := gIS) F.2.2.2.2.2.1 [⟨0, 227, 228, 66⟩, ⟨0, 227, 234, 68⟩] ⟨0, 227, 240, 70⟩ [] (by rw [htb]; rfl) (List.forall_mem_cons.mpr ⟨Or.inr ⟨by decide, gIO, F.2.2.2.2.2.2.1 (.classLink RL 66 gIO) (by decide +kernel), hKK.2.2.2.2.2.2.1 (gIS, gIO) (by decide +kernel)⟩, List.forall_mem_cons.mpr ⟨Or.inr ⟨by decide, gIA, F.2.2.2.2.2.2.1 (.classLink RL 68 gIA) (by decide +kernel), hKK.2.2.2.2.2.2.1 (gIS, gIA) (by decide +kernel)⟩, fun _ h_ => by cases h_⟩⟩) rfl (by decide) (F.2.2.2.2.2.2.1 (.classLink RL 70 gIS) (by decide +kernel)) (va_Nw.use rfl (hKK.2.2.2.2.2.1 (gIS, gIS) (by decide +kernel))) hce hcv hcl ?_
      refine lv_astore (lv' := [(6, .ref q9), (0, .ref lq), (1, .int (nI 26)), (2, .int a), (3, .int b), (4, .int cv), (5, .int dv)]) hx hb dL_call_240 hl (by decide) rfl (fun ls hl => ?_)
      refine lv_sipush (v := zI (-2013)) hx hb dL_call_242 (by decide) ?_
      exact gRi F dL_call_245 rfl u ⟨rfl, hp⟩ (gPl hP) (gDl hD) hS (by have h9 := hb1.2.2.1; omega) (by have h9 := hb1.2.2.2.1; omega)

set_option maxHeartbeats 4000000 in
set_option maxRecDepth 100000 in
theorem call_27 (l : Launch) (G : gG) (lq : Nat) (S S' : SpT) (a b cv dv : Int32) (r : Int) (h : DoS l G lq yL_owned wsL_owned [.int (nI 27), .int a, .int b] S r S') : LW l G lq yL_call wsL_call { frames := 9, cells := 4, slots := 528, locals := 230 } [.int (nI 27), .int a, .int b, .int cv, .int dv] S (zI r) S' 4 528 := by
  intro wv hC
  refine gMw_mk (cc := cL_call) (nL := 7) (ret := some .int) (hh := [(0, 227, 228, 66), (0, 227, 234, 68), (0, 227, 240, 70)]) (Qc := fun A => va_Qi (S := va_W) (fun r' u => r' = zI r ∧ clS G lq u S') (gB G A (fun u => u)) A) (by decide) rfl (Nat.le_of_ble_eq_true rfl) ?_
  intro p e s m args below meth c A F htb hZ ls hl hP hD hS
  have hx := F.1
  have hb := F.2.1
  have hts := F.2.2.2.2.2.2.1
  have hKK := F.2.2.2.2.2.2.2.2.1
  have hl : lv_has ls 7 [(0, .ref lq), (1, .int (nI 27)), (2, .int a), (3, .int b), (4, .int cv), (5, .int dv)] := hl
  have hP : va_P G.1 vwCl (wv ++ []) s.heap := by rw [List.append_nil]; exact hP
  have hD : va_D A (wv ++ []) := by rw [List.append_nil]; exact hD
  generalize hH : s.heap = H at hP ⊢
  have hS0 : va_S A s.heap H [] := by rw [← hH]; exact va_S.rf
  clear hS
  have hS := hS0
  clear hS0
  generalize hLo : ([] : List Loc) = locs at hS ⊢
  refine lv_iload_n hx hb dL_call_0 rfl (lv_at hl 1 rfl) ?_
  refine bZT_ne (tgt := 17) hx hb dL_call_1 (by decide) (by decide) ?_
  refine lv_iload_n hx hb dL_call_17 rfl (lv_at hl 1 rfl) ?_
  refine lv_iconst (v := nI 1) hx hb dL_call_18 (by decide) ?_
  refine bIT_ne (tgt := 35) hx hb dL_call_19 (by decide) (by decide) ?_
  refine lv_iload_n hx hb dL_call_35 rfl (lv_at hl 1 rfl) ?_
  refine lv_iconst (v := nI 2) hx hb dL_call_36 (by decide) ?_
  refine bIT_ne (tgt := 48) hx hb dL_call_37 (by decide) (by decide) ?_
  refine lv_iload_n hx hb dL_call_48 rfl (lv_at hl 1 rfl) ?_
  refine lv_iconst (v := nI 3) hx hb dL_call_49 (by decide) ?_
  refine bIT_ne (tgt := 64) hx hb dL_call_50 (by decide) (by decide) ?_
  refine lv_iload_n hx hb dL_call_64 rfl (lv_at hl 1 rfl) ?_
  refine lv_iconst (v := nI 4) hx hb dL_call_65 (by decide) ?_
  refine bIT_ne (tgt := 82) hx hb dL_call_66 (by decide) (by decide) ?_
  refine lv_iload_n hx hb dL_call_82 rfl (lv_at hl 1 rfl) ?_
  refine lv_iconst (v := nI 5) hx hb dL_call_83 (by decide) ?_
  refine bIT_ne (tgt := 95) hx hb dL_call_84 (by decide) (by decide) ?_
  refine lv_iload_n hx hb dL_call_95 rfl (lv_at hl 1 rfl) ?_
  refine lv_bipush (v := nI 6) hx hb dL_call_96 (by decide) ?_
  refine bIT_ne (tgt := 109) hx hb dL_call_98 (by decide) (by decide) ?_
  refine lv_iload_n hx hb dL_call_109 rfl (lv_at hl 1 rfl) ?_
  refine lv_bipush (v := nI 7) hx hb dL_call_110 (by decide) ?_
  refine bIT_ne (tgt := 123) hx hb dL_call_112 (by decide) (by decide) ?_
  refine lv_iload_n hx hb dL_call_123 rfl (lv_at hl 1 rfl) ?_
  refine lv_bipush (v := nI 8) hx hb dL_call_124 (by decide) ?_
  refine bIT_ne (tgt := 136) hx hb dL_call_126 (by decide) (by decide) ?_
  refine lv_iload_n hx hb dL_call_136 rfl (lv_at hl 1 rfl) ?_
  refine lv_bipush (v := nI 9) hx hb dL_call_137 (by decide) ?_
  refine bIT_ne (tgt := 149) hx hb dL_call_139 (by decide) (by decide) ?_
  refine lv_iload_n hx hb dL_call_149 rfl (lv_at hl 1 rfl) ?_
  refine lv_bipush (v := nI 10) hx hb dL_call_150 (by decide) ?_
  refine bIT_ne (tgt := 163) hx hb dL_call_152 (by decide) (by decide) ?_
  refine lv_iload_n hx hb dL_call_163 rfl (lv_at hl 1 rfl) ?_
  refine lv_bipush (v := nI 11) hx hb dL_call_164 (by decide) ?_
  refine bIT_ne (tgt := 177) hx hb dL_call_166 (by decide) (by decide) ?_
  refine lv_iload_n hx hb dL_call_177 rfl (lv_at hl 1 rfl) ?_
  refine lv_bipush (v := nI 17) hx hb dL_call_178 (by decide) ?_
  refine bIT_ge (tgt := 193) hx hb dL_call_180 (by decide) (by decide) ?_
  refine lv_iload_n hx hb dL_call_193 rfl (lv_at hl 1 rfl) ?_
  refine lv_bipush (v := nI 29) hx hb dL_call_194 (by decide) ?_
  refine bIF_ge (tgt := 209) hx hb dL_call_196 (by decide) (by decide) ?_
  refine lv_aload_n hx hb dL_call_199 rfl (lv_at hl 0 rfl) ?_
  refine lv_iload_n hx hb dL_call_200 rfl (lv_at hl 1 rfl) ?_
  refine lv_iload_n hx hb dL_call_201 rfl (lv_at hl 2 rfl) ?_
  refine lv_iload_n hx hb dL_call_202 rfl (lv_at hl 3 rfl) ?_
  rcases h with ⟨rm, mc, ms, hb1, hM⟩ | ⟨E, rm, mc, ms, hb1, rfl, hE, hM⟩
  · refine lqS (own := RL) (index := 57) (bytes := cL_owned) (n := 4) (As := [.int (nI 27), .int a, .int b]) (rest := []) (c2 := 4) (s2 := 528) F hZ hM hC gL_call_L_owned rfl rfl hb1.1 hb1.2.1 (by decide +kernel) rfl ⟨by have h9 := hb1.2.2.2.2.1; show rm.frames + 1 ≤ 9; omega, by have h9 := hb1.2.2.2.2.2; show 8 + (4 + 11) + rm.locals ≤ 230; omega⟩ hP hD hS rfl hl.1 (Nat.le_of_ble_eq_true rfl) dL_call_203 ⟨by have h9 := hb1.2.2.1; omega, by have h9 := hb1.2.2.2.1; omega⟩ ⟨Nat.le_of_ble_eq_true rfl, Nat.le_of_ble_eq_true rfl⟩ (fun u H locs hC hP hD hS => ?_)
    refine lv_goto (tgt := 227) hx hb dL_call_206 (by decide) ?_
    exact gRi F dL_call_227 rfl u ⟨rfl, hC⟩ (gPl hP) (gDl hD) hS (Nat.le_of_ble_eq_true rfl) (Nat.le_of_ble_eq_true rfl)
  · obtain ⟨fs, h0⟩ := cl_recv hC
    refine gXrun F (gRunSx (own := RL) (bytes := cL_owned) (n := 4) (As := [.ref lq, .int (nI 27), .int a, .int b]) (rest := []) F hZ hS (hM wv hC H.size) gL_call_L_owned rfl rfl hb1.1 hb1.2.1 (by decide +kernel) rfl ⟨by have h9 := hb1.2.2.2.2.1; show rm.frames + 1 ≤ 9; omega, by have h9 := hb1.2.2.2.2.2; show 8 + (4 + 11) + rm.locals ≤ 230; omega⟩ hP hD (lit := wv) (wt := []) (wc := wv) (isC := List.range wv.length) (gRange wv) (gRange_nd _) rfl hl.1 (Nat.le_of_ble_eq_true rfl) dL_call_203 ⟨by have h9 := hb1.2.2.1; show 0 + mc ≤ 4; omega, by have h9 := hb1.2.2.2.1; show 0 + ms ≤ 528; omega⟩) hP hD hS (lit := wv) (wt := []) (wc := wv) (isC := List.range wv.length) (wr := []) (isR := []) (gRange wv) rfl rfl (fun _ h_ => by cases h_) (fun ce q9 u H locs hp hP hD hS hce hcv hcl => ?_)
    have hP : va_P G.1 vwCl (u ++ []) H := hP
    have hD : va_D A (u ++ []) := hD
    rcases hE with ⟨rfl, rfl⟩ | ⟨rfl, rfl⟩ | ⟨rfl, rfl⟩
    · refine vx_catch (own := RL) (name := gIO) (E := gIO) F.2.2.2.2.2.1 [] ⟨0, 227, 228, 66⟩ [⟨0, 227, 234, 68⟩, ⟨0, 227, 240, 70⟩] (by rw [htb]; rfl) (fun _ h_ => by cases h_) rfl (by decide) (F.2.2.2.2.2.2.1 (.classLink RL 66 gIO) (by decide +kernel)) (va_Nw.use rfl (hKK.2.2.2.2.2.1 (gIO, gIO) (by decide +kernel))) hce hcv hcl ?_
      refine lv_astore (lv' := [(6, .ref q9), (0, .ref lq), (1, .int (nI 27)), (2, .int a), (3, .int b), (4, .int cv), (5, .int dv)]) hx hb dL_call_228 hl (by decide) rfl (fun ls hl => ?_)
      refine lv_sipush (v := zI (-2011)) hx hb dL_call_230 (by decide) ?_
      exact gRi F dL_call_233 rfl u ⟨rfl, hp⟩ (gPl hP) (gDl hD) hS (by have h9 := hb1.2.2.1; omega) (by have h9 := hb1.2.2.2.1; omega)
    · refine vx_catch (own := RL) (name := gIA) (E := gIA) F.2.2.2.2.2.1 [⟨0, 227, 228, 66⟩] ⟨0, 227, 234, 68⟩ [⟨0, 227, 240, 70⟩] (by rw [htb]; rfl) (List.forall_mem_cons.mpr ⟨Or.inr ⟨by decide, gIO, F.2.2.2.2.2.2.1 (.classLink RL 66 gIO) (by decide +kernel), hKK.2.2.2.2.2.2.1 (gIA, gIO) (by decide +kernel)⟩, fun _ h_ => by cases h_⟩) rfl (by decide) (F.2.2.2.2.2.2.1 (.classLink RL 68 gIA) (by decide +kernel)) (va_Nw.use rfl (hKK.2.2.2.2.2.1 (gIA, gIA) (by decide +kernel))) hce hcv hcl ?_
      refine lv_astore (lv' := [(6, .ref q9), (0, .ref lq), (1, .int (nI 27)), (2, .int a), (3, .int b), (4, .int cv), (5, .int dv)]) hx hb dL_call_234 hl (by decide) rfl (fun ls hl => ?_)
      refine lv_sipush (v := zI (-2012)) hx hb dL_call_236 (by decide) ?_
      exact gRi F dL_call_239 rfl u ⟨rfl, hp⟩ (gPl hP) (gDl hD) hS (by have h9 := hb1.2.2.1; omega) (by have h9 := hb1.2.2.2.1; omega)
    · refine vx_catch (own := RL) (name := gIS) (E := gIS) F.2.2.2.2.2.1 [⟨0, 227, 228, 66⟩, ⟨0, 227, 234, 68⟩] ⟨0, 227, 240, 70⟩ [] (by rw [htb]; rfl) (List.forall_mem_cons.mpr ⟨Or.inr ⟨by decide, gIO, F.2.2.2.2.2.2.1 (.classLink RL 66 gIO) (by decide +kernel), hKK.2.2.2.2.2.2.1 (gIS, gIO) (by decide +kernel)⟩, List.forall_mem_cons.mpr ⟨Or.inr ⟨by decide, gIA, F.2.2.2.2.2.2.1 (.classLink RL 68 gIA) (by decide +kernel), hKK.2.2.2.2.2.2.1 (gIS, gIA) (by decide +kernel)⟩, fun _ h_ => by cases h_⟩⟩) rfl (by decide) (F.2.2.2.2.2.2.1 (.classLink RL 70 gIS) (by decide +kernel)) (va_Nw.use rfl (hKK.2.2.2.2.2.1 (gIS, gIS) (by decide +kernel))) hce hcv hcl ?_
      refine lv_astore (lv' := [(6, .ref q9), (0, .ref lq), (1, .int (nI 27)), (2, .int a), (3, .int b), (4, .int cv), (5, .int dv)]) hx hb dL_call_240 hl (by decide) rfl (fun ls hl => ?_)
      refine lv_sipush (v := zI (-2013)) hx hb dL_call_242 (by decide) ?_
      exact gRi F dL_call_245 rfl u ⟨rfl, hp⟩ (gPl hP) (gDl hD) hS (by have h9 := hb1.2.2.1; omega) (by have h9 := hb1.2.2.2.1; omega)

set_option maxHeartbeats 4000000 in
set_option maxRecDepth 100000 in
theorem call_28 (l : Launch) (G : gG) (lq : Nat) (S S' : SpT) (a b cv dv : Int32) (r : Int) (h : DoS l G lq yL_owned wsL_owned [.int (nI 28), .int a, .int b] S r S') : LW l G lq yL_call wsL_call { frames := 9, cells := 4, slots := 528, locals := 230 } [.int (nI 28), .int a, .int b, .int cv, .int dv] S (zI r) S' 4 528 := by
  intro wv hC
  refine gMw_mk (cc := cL_call) (nL := 7) (ret := some .int) (hh := [(0, 227, 228, 66), (0, 227, 234, 68), (0, 227, 240, 70)]) (Qc := fun A => va_Qi (S := va_W) (fun r' u => r' = zI r ∧ clS G lq u S') (gB G A (fun u => u)) A) (by decide) rfl (Nat.le_of_ble_eq_true rfl) ?_
  intro p e s m args below meth c A F htb hZ ls hl hP hD hS
  have hx := F.1
  have hb := F.2.1
  have hts := F.2.2.2.2.2.2.1
  have hKK := F.2.2.2.2.2.2.2.2.1
  have hl : lv_has ls 7 [(0, .ref lq), (1, .int (nI 28)), (2, .int a), (3, .int b), (4, .int cv), (5, .int dv)] := hl
  have hP : va_P G.1 vwCl (wv ++ []) s.heap := by rw [List.append_nil]; exact hP
  have hD : va_D A (wv ++ []) := by rw [List.append_nil]; exact hD
  generalize hH : s.heap = H at hP ⊢
  have hS0 : va_S A s.heap H [] := by rw [← hH]; exact va_S.rf
  clear hS
  have hS := hS0
  clear hS0
  generalize hLo : ([] : List Loc) = locs at hS ⊢
  refine lv_iload_n hx hb dL_call_0 rfl (lv_at hl 1 rfl) ?_
  refine bZT_ne (tgt := 17) hx hb dL_call_1 (by decide) (by decide) ?_
  refine lv_iload_n hx hb dL_call_17 rfl (lv_at hl 1 rfl) ?_
  refine lv_iconst (v := nI 1) hx hb dL_call_18 (by decide) ?_
  refine bIT_ne (tgt := 35) hx hb dL_call_19 (by decide) (by decide) ?_
  refine lv_iload_n hx hb dL_call_35 rfl (lv_at hl 1 rfl) ?_
  refine lv_iconst (v := nI 2) hx hb dL_call_36 (by decide) ?_
  refine bIT_ne (tgt := 48) hx hb dL_call_37 (by decide) (by decide) ?_
  refine lv_iload_n hx hb dL_call_48 rfl (lv_at hl 1 rfl) ?_
  refine lv_iconst (v := nI 3) hx hb dL_call_49 (by decide) ?_
  refine bIT_ne (tgt := 64) hx hb dL_call_50 (by decide) (by decide) ?_
  refine lv_iload_n hx hb dL_call_64 rfl (lv_at hl 1 rfl) ?_
  refine lv_iconst (v := nI 4) hx hb dL_call_65 (by decide) ?_
  refine bIT_ne (tgt := 82) hx hb dL_call_66 (by decide) (by decide) ?_
  refine lv_iload_n hx hb dL_call_82 rfl (lv_at hl 1 rfl) ?_
  refine lv_iconst (v := nI 5) hx hb dL_call_83 (by decide) ?_
  refine bIT_ne (tgt := 95) hx hb dL_call_84 (by decide) (by decide) ?_
  refine lv_iload_n hx hb dL_call_95 rfl (lv_at hl 1 rfl) ?_
  refine lv_bipush (v := nI 6) hx hb dL_call_96 (by decide) ?_
  refine bIT_ne (tgt := 109) hx hb dL_call_98 (by decide) (by decide) ?_
  refine lv_iload_n hx hb dL_call_109 rfl (lv_at hl 1 rfl) ?_
  refine lv_bipush (v := nI 7) hx hb dL_call_110 (by decide) ?_
  refine bIT_ne (tgt := 123) hx hb dL_call_112 (by decide) (by decide) ?_
  refine lv_iload_n hx hb dL_call_123 rfl (lv_at hl 1 rfl) ?_
  refine lv_bipush (v := nI 8) hx hb dL_call_124 (by decide) ?_
  refine bIT_ne (tgt := 136) hx hb dL_call_126 (by decide) (by decide) ?_
  refine lv_iload_n hx hb dL_call_136 rfl (lv_at hl 1 rfl) ?_
  refine lv_bipush (v := nI 9) hx hb dL_call_137 (by decide) ?_
  refine bIT_ne (tgt := 149) hx hb dL_call_139 (by decide) (by decide) ?_
  refine lv_iload_n hx hb dL_call_149 rfl (lv_at hl 1 rfl) ?_
  refine lv_bipush (v := nI 10) hx hb dL_call_150 (by decide) ?_
  refine bIT_ne (tgt := 163) hx hb dL_call_152 (by decide) (by decide) ?_
  refine lv_iload_n hx hb dL_call_163 rfl (lv_at hl 1 rfl) ?_
  refine lv_bipush (v := nI 11) hx hb dL_call_164 (by decide) ?_
  refine bIT_ne (tgt := 177) hx hb dL_call_166 (by decide) (by decide) ?_
  refine lv_iload_n hx hb dL_call_177 rfl (lv_at hl 1 rfl) ?_
  refine lv_bipush (v := nI 17) hx hb dL_call_178 (by decide) ?_
  refine bIT_ge (tgt := 193) hx hb dL_call_180 (by decide) (by decide) ?_
  refine lv_iload_n hx hb dL_call_193 rfl (lv_at hl 1 rfl) ?_
  refine lv_bipush (v := nI 29) hx hb dL_call_194 (by decide) ?_
  refine bIF_ge (tgt := 209) hx hb dL_call_196 (by decide) (by decide) ?_
  refine lv_aload_n hx hb dL_call_199 rfl (lv_at hl 0 rfl) ?_
  refine lv_iload_n hx hb dL_call_200 rfl (lv_at hl 1 rfl) ?_
  refine lv_iload_n hx hb dL_call_201 rfl (lv_at hl 2 rfl) ?_
  refine lv_iload_n hx hb dL_call_202 rfl (lv_at hl 3 rfl) ?_
  rcases h with ⟨rm, mc, ms, hb1, hM⟩ | ⟨E, rm, mc, ms, hb1, rfl, hE, hM⟩
  · refine lqS (own := RL) (index := 57) (bytes := cL_owned) (n := 4) (As := [.int (nI 28), .int a, .int b]) (rest := []) (c2 := 4) (s2 := 528) F hZ hM hC gL_call_L_owned rfl rfl hb1.1 hb1.2.1 (by decide +kernel) rfl ⟨by have h9 := hb1.2.2.2.2.1; show rm.frames + 1 ≤ 9; omega, by have h9 := hb1.2.2.2.2.2; show 8 + (4 + 11) + rm.locals ≤ 230; omega⟩ hP hD hS rfl hl.1 (Nat.le_of_ble_eq_true rfl) dL_call_203 ⟨by have h9 := hb1.2.2.1; omega, by have h9 := hb1.2.2.2.1; omega⟩ ⟨Nat.le_of_ble_eq_true rfl, Nat.le_of_ble_eq_true rfl⟩ (fun u H locs hC hP hD hS => ?_)
    refine lv_goto (tgt := 227) hx hb dL_call_206 (by decide) ?_
    exact gRi F dL_call_227 rfl u ⟨rfl, hC⟩ (gPl hP) (gDl hD) hS (Nat.le_of_ble_eq_true rfl) (Nat.le_of_ble_eq_true rfl)
  · obtain ⟨fs, h0⟩ := cl_recv hC
    refine gXrun F (gRunSx (own := RL) (bytes := cL_owned) (n := 4) (As := [.ref lq, .int (nI 28), .int a, .int b]) (rest := []) F hZ hS (hM wv hC H.size) gL_call_L_owned rfl rfl hb1.1 hb1.2.1 (by decide +kernel) rfl ⟨by have h9 := hb1.2.2.2.2.1; show rm.frames + 1 ≤ 9; omega, by have h9 := hb1.2.2.2.2.2; show 8 + (4 + 11) + rm.locals ≤ 230; omega⟩ hP hD (lit := wv) (wt := []) (wc := wv) (isC := List.range wv.length) (gRange wv) (gRange_nd _) rfl hl.1 (Nat.le_of_ble_eq_true rfl) dL_call_203 ⟨by have h9 := hb1.2.2.1; show 0 + mc ≤ 4; omega, by have h9 := hb1.2.2.2.1; show 0 + ms ≤ 528; omega⟩) hP hD hS (lit := wv) (wt := []) (wc := wv) (isC := List.range wv.length) (wr := []) (isR := []) (gRange wv) rfl rfl (fun _ h_ => by cases h_) (fun ce q9 u H locs hp hP hD hS hce hcv hcl => ?_)
    have hP : va_P G.1 vwCl (u ++ []) H := hP
    have hD : va_D A (u ++ []) := hD
    rcases hE with ⟨rfl, rfl⟩ | ⟨rfl, rfl⟩ | ⟨rfl, rfl⟩
    · refine vx_catch (own := RL) (name := gIO) (E := gIO) F.2.2.2.2.2.1 [] ⟨0, 227, 228, 66⟩ [⟨0, 227, 234, 68⟩, ⟨0, 227, 240, 70⟩] (by rw [htb]; rfl) (fun _ h_ => by cases h_) rfl (by decide) (F.2.2.2.2.2.2.1 (.classLink RL 66 gIO) (by decide +kernel)) (va_Nw.use rfl (hKK.2.2.2.2.2.1 (gIO, gIO) (by decide +kernel))) hce hcv hcl ?_
      refine lv_astore (lv' := [(6, .ref q9), (0, .ref lq), (1, .int (nI 28)), (2, .int a), (3, .int b), (4, .int cv), (5, .int dv)]) hx hb dL_call_228 hl (by decide) rfl (fun ls hl => ?_)
      refine lv_sipush (v := zI (-2011)) hx hb dL_call_230 (by decide) ?_
      exact gRi F dL_call_233 rfl u ⟨rfl, hp⟩ (gPl hP) (gDl hD) hS (by have h9 := hb1.2.2.1; omega) (by have h9 := hb1.2.2.2.1; omega)
    · refine vx_catch (own := RL) (name := gIA) (E := gIA) F.2.2.2.2.2.1 [⟨0, 227, 228, 66⟩] ⟨0, 227, 234, 68⟩ [⟨0, 227, 240, 70⟩] (by rw [htb]; rfl) (List.forall_mem_cons.mpr ⟨Or.inr ⟨by decide, gIO, F.2.2.2.2.2.2.1 (.classLink RL 66 gIO) (by decide +kernel), hKK.2.2.2.2.2.2.1 (gIA, gIO) (by decide +kernel)⟩, fun _ h_ => by cases h_⟩) rfl (by decide) (F.2.2.2.2.2.2.1 (.classLink RL 68 gIA) (by decide +kernel)) (va_Nw.use rfl (hKK.2.2.2.2.2.1 (gIA, gIA) (by decide +kernel))) hce hcv hcl ?_
      refine lv_astore (lv' := [(6, .ref q9), (0, .ref lq), (1, .int (nI 28)), (2, .int a), (3, .int b), (4, .int cv), (5, .int dv)]) hx hb dL_call_234 hl (by decide) rfl (fun ls hl => ?_)
      refine lv_sipush (v := zI (-2012)) hx hb dL_call_236 (by decide) ?_
      exact gRi F dL_call_239 rfl u ⟨rfl, hp⟩ (gPl hP) (gDl hD) hS (by have h9 := hb1.2.2.1; omega) (by have h9 := hb1.2.2.2.1; omega)
    · refine vx_catch (own := RL) (name := gIS) (E := gIS) F.2.2.2.2.2.1 [⟨0, 227, 228, 66⟩, ⟨0, 227, 234, 68⟩] ⟨0, 227, 240, 70⟩ [] (by rw [htb]; rfl) (List.forall_mem_cons.mpr ⟨Or.inr ⟨by decide, gIO, F.2.2.2.2.2.2.1 (.classLink RL 66 gIO) (by decide +kernel), hKK.2.2.2.2.2.2.1 (gIS, gIO) (by decide +kernel)⟩, List.forall_mem_cons.mpr ⟨Or.inr ⟨by decide, gIA, F.2.2.2.2.2.2.1 (.classLink RL 68 gIA) (by decide +kernel), hKK.2.2.2.2.2.2.1 (gIS, gIA) (by decide +kernel)⟩, fun _ h_ => by cases h_⟩⟩) rfl (by decide) (F.2.2.2.2.2.2.1 (.classLink RL 70 gIS) (by decide +kernel)) (va_Nw.use rfl (hKK.2.2.2.2.2.1 (gIS, gIS) (by decide +kernel))) hce hcv hcl ?_
      refine lv_astore (lv' := [(6, .ref q9), (0, .ref lq), (1, .int (nI 28)), (2, .int a), (3, .int b), (4, .int cv), (5, .int dv)]) hx hb dL_call_240 hl (by decide) rfl (fun ls hl => ?_)
      refine lv_sipush (v := zI (-2013)) hx hb dL_call_242 (by decide) ?_
      exact gRi F dL_call_245 rfl u ⟨rfl, hp⟩ (gPl hP) (gDl hD) hS (by have h9 := hb1.2.2.1; omega) (by have h9 := hb1.2.2.2.1; omega)

set_option maxHeartbeats 4000000 in
set_option maxRecDepth 100000 in
theorem call_29 (l : Launch) (G : gG) (lq : Nat) (S S' : SpT) (a b cv dv : Int32) (r : Int) (h : DoV l G lq yX3_plotsIfFlooded wsX3_plotsIfFlooded [.int a] S r S') : LW l G lq yL_call wsL_call { frames := 9, cells := 4, slots := 528, locals := 230 } [.int (nI 29), .int a, .int b, .int cv, .int dv] S (zI r) S' 4 528 := by
  intro wv hC
  refine gMw_mk (cc := cL_call) (nL := 7) (ret := some .int) (hh := [(0, 227, 228, 66), (0, 227, 234, 68), (0, 227, 240, 70)]) (Qc := fun A => va_Qi (S := va_W) (fun r' u => r' = zI r ∧ clS G lq u S') (gB G A (fun u => u)) A) (by decide) rfl (Nat.le_of_ble_eq_true rfl) ?_
  intro p e s m args below meth c A F htb hZ ls hl hP hD hS
  have hx := F.1
  have hb := F.2.1
  have hts := F.2.2.2.2.2.2.1
  have hKK := F.2.2.2.2.2.2.2.2.1
  have hl : lv_has ls 7 [(0, .ref lq), (1, .int (nI 29)), (2, .int a), (3, .int b), (4, .int cv), (5, .int dv)] := hl
  have hP : va_P G.1 vwCl (wv ++ []) s.heap := by rw [List.append_nil]; exact hP
  have hD : va_D A (wv ++ []) := by rw [List.append_nil]; exact hD
  generalize hH : s.heap = H at hP ⊢
  have hS0 : va_S A s.heap H [] := by rw [← hH]; exact va_S.rf
  clear hS
  have hS := hS0
  clear hS0
  generalize hLo : ([] : List Loc) = locs at hS ⊢
  refine lv_iload_n hx hb dL_call_0 rfl (lv_at hl 1 rfl) ?_
  refine bZT_ne (tgt := 17) hx hb dL_call_1 (by decide) (by decide) ?_
  refine lv_iload_n hx hb dL_call_17 rfl (lv_at hl 1 rfl) ?_
  refine lv_iconst (v := nI 1) hx hb dL_call_18 (by decide) ?_
  refine bIT_ne (tgt := 35) hx hb dL_call_19 (by decide) (by decide) ?_
  refine lv_iload_n hx hb dL_call_35 rfl (lv_at hl 1 rfl) ?_
  refine lv_iconst (v := nI 2) hx hb dL_call_36 (by decide) ?_
  refine bIT_ne (tgt := 48) hx hb dL_call_37 (by decide) (by decide) ?_
  refine lv_iload_n hx hb dL_call_48 rfl (lv_at hl 1 rfl) ?_
  refine lv_iconst (v := nI 3) hx hb dL_call_49 (by decide) ?_
  refine bIT_ne (tgt := 64) hx hb dL_call_50 (by decide) (by decide) ?_
  refine lv_iload_n hx hb dL_call_64 rfl (lv_at hl 1 rfl) ?_
  refine lv_iconst (v := nI 4) hx hb dL_call_65 (by decide) ?_
  refine bIT_ne (tgt := 82) hx hb dL_call_66 (by decide) (by decide) ?_
  refine lv_iload_n hx hb dL_call_82 rfl (lv_at hl 1 rfl) ?_
  refine lv_iconst (v := nI 5) hx hb dL_call_83 (by decide) ?_
  refine bIT_ne (tgt := 95) hx hb dL_call_84 (by decide) (by decide) ?_
  refine lv_iload_n hx hb dL_call_95 rfl (lv_at hl 1 rfl) ?_
  refine lv_bipush (v := nI 6) hx hb dL_call_96 (by decide) ?_
  refine bIT_ne (tgt := 109) hx hb dL_call_98 (by decide) (by decide) ?_
  refine lv_iload_n hx hb dL_call_109 rfl (lv_at hl 1 rfl) ?_
  refine lv_bipush (v := nI 7) hx hb dL_call_110 (by decide) ?_
  refine bIT_ne (tgt := 123) hx hb dL_call_112 (by decide) (by decide) ?_
  refine lv_iload_n hx hb dL_call_123 rfl (lv_at hl 1 rfl) ?_
  refine lv_bipush (v := nI 8) hx hb dL_call_124 (by decide) ?_
  refine bIT_ne (tgt := 136) hx hb dL_call_126 (by decide) (by decide) ?_
  refine lv_iload_n hx hb dL_call_136 rfl (lv_at hl 1 rfl) ?_
  refine lv_bipush (v := nI 9) hx hb dL_call_137 (by decide) ?_
  refine bIT_ne (tgt := 149) hx hb dL_call_139 (by decide) (by decide) ?_
  refine lv_iload_n hx hb dL_call_149 rfl (lv_at hl 1 rfl) ?_
  refine lv_bipush (v := nI 10) hx hb dL_call_150 (by decide) ?_
  refine bIT_ne (tgt := 163) hx hb dL_call_152 (by decide) (by decide) ?_
  refine lv_iload_n hx hb dL_call_163 rfl (lv_at hl 1 rfl) ?_
  refine lv_bipush (v := nI 11) hx hb dL_call_164 (by decide) ?_
  refine bIT_ne (tgt := 177) hx hb dL_call_166 (by decide) (by decide) ?_
  refine lv_iload_n hx hb dL_call_177 rfl (lv_at hl 1 rfl) ?_
  refine lv_bipush (v := nI 17) hx hb dL_call_178 (by decide) ?_
  refine bIT_ge (tgt := 193) hx hb dL_call_180 (by decide) (by decide) ?_
  refine lv_iload_n hx hb dL_call_193 rfl (lv_at hl 1 rfl) ?_
  refine lv_bipush (v := nI 29) hx hb dL_call_194 (by decide) ?_
  refine bIT_ge (tgt := 209) hx hb dL_call_196 (by decide) (by decide) ?_
  refine lv_iload_n hx hb dL_call_209 rfl (lv_at hl 1 rfl) ?_
  refine lv_bipush (v := nI 29) hx hb dL_call_210 (by decide) ?_
  refine bIF_ne (tgt := 223) hx hb dL_call_212 (by decide) (by decide) ?_
  refine lv_aload_n hx hb dL_call_215 rfl (lv_at hl 0 rfl) ?_
  refine lv_iload_n hx hb dL_call_216 rfl (lv_at hl 2 rfl) ?_
  rcases h with ⟨rm, mc, ms, hb1, hM⟩ | ⟨E, rm, mc, ms, hb1, rfl, hE, hM⟩
  · refine lqV (own := RL) (index := 60) (bytes := cX3_plotsIfFlooded) (n := 1) (As := [.int a]) (rest := []) (c2 := 4) (s2 := 528) F hM hC gL_call_X3_plotsIfFlooded rfl rfl hb1.1 hb1.2.1 (by decide +kernel) rfl ⟨by have h9 := hb1.2.2.2.2.1; show rm.frames + 1 ≤ 9; omega, by have h9 := hb1.2.2.2.2.2; show 8 + (2 + 11) + rm.locals ≤ 230; omega⟩ hP hD hS rfl hl.1 (Nat.le_of_ble_eq_true rfl) dL_call_217 ⟨by have h9 := hb1.2.2.1; omega, by have h9 := hb1.2.2.2.1; omega⟩ ⟨Nat.le_of_ble_eq_true rfl, Nat.le_of_ble_eq_true rfl⟩ (fun u H locs hC hP hD hS => ?_)
    refine lv_goto (tgt := 227) hx hb dL_call_220 (by decide) ?_
    exact gRi F dL_call_227 rfl u ⟨rfl, hC⟩ (gPl hP) (gDl hD) hS (Nat.le_of_ble_eq_true rfl) (Nat.le_of_ble_eq_true rfl)
  · obtain ⟨fs, h0⟩ := cl_recv hC
    refine gXrun F (gRunVx (own := RL) (C := RX3) (ci := 3) (bytes := cX3_plotsIfFlooded) (n := 1) (As := [.int a]) (rest := []) F hZ hS (hM wv hC H.size) gL_call_X3_plotsIfFlooded rfl rfl hb1.1 hb1.2.1 (by decide +kernel) rfl ⟨by have h9 := hb1.2.2.2.2.1; show rm.frames + 1 ≤ 9; omega, by have h9 := hb1.2.2.2.2.2; show 8 + (2 + 11) + rm.locals ≤ 230; omega⟩ hP hD (lit := wv) (wt := []) (wc := wv) (isC := List.range wv.length) (gRange wv) (gRange_nd _) rfl h0 rfl hl.1 (Nat.le_of_ble_eq_true rfl) dL_call_217 ⟨by have h9 := hb1.2.2.1; show 0 + mc ≤ 4; omega, by have h9 := hb1.2.2.2.1; show 0 + ms ≤ 528; omega⟩) hP hD hS (lit := wv) (wt := []) (wc := wv) (isC := List.range wv.length) (wr := []) (isR := []) (gRange wv) rfl rfl (fun _ h_ => by cases h_) (fun ce q9 u H locs hp hP hD hS hce hcv hcl => ?_)
    have hP : va_P G.1 vwCl (u ++ []) H := hP
    have hD : va_D A (u ++ []) := hD
    rcases hE with ⟨rfl, rfl⟩ | ⟨rfl, rfl⟩ | ⟨rfl, rfl⟩
    · refine vx_catch (own := RL) (name := gIO) (E := gIO) F.2.2.2.2.2.1 [] ⟨0, 227, 228, 66⟩ [⟨0, 227, 234, 68⟩, ⟨0, 227, 240, 70⟩] (by rw [htb]; rfl) (fun _ h_ => by cases h_) rfl (by decide) (F.2.2.2.2.2.2.1 (.classLink RL 66 gIO) (by decide +kernel)) (va_Nw.use rfl (hKK.2.2.2.2.2.1 (gIO, gIO) (by decide +kernel))) hce hcv hcl ?_
      refine lv_astore (lv' := [(6, .ref q9), (0, .ref lq), (1, .int (nI 29)), (2, .int a), (3, .int b), (4, .int cv), (5, .int dv)]) hx hb dL_call_228 hl (by decide) rfl (fun ls hl => ?_)
      refine lv_sipush (v := zI (-2011)) hx hb dL_call_230 (by decide) ?_
      exact gRi F dL_call_233 rfl u ⟨rfl, hp⟩ (gPl hP) (gDl hD) hS (by have h9 := hb1.2.2.1; omega) (by have h9 := hb1.2.2.2.1; omega)
    · refine vx_catch (own := RL) (name := gIA) (E := gIA) F.2.2.2.2.2.1 [⟨0, 227, 228, 66⟩] ⟨0, 227, 234, 68⟩ [⟨0, 227, 240, 70⟩] (by rw [htb]; rfl) (List.forall_mem_cons.mpr ⟨Or.inr ⟨by decide, gIO, F.2.2.2.2.2.2.1 (.classLink RL 66 gIO) (by decide +kernel), hKK.2.2.2.2.2.2.1 (gIA, gIO) (by decide +kernel)⟩, fun _ h_ => by cases h_⟩) rfl (by decide) (F.2.2.2.2.2.2.1 (.classLink RL 68 gIA) (by decide +kernel)) (va_Nw.use rfl (hKK.2.2.2.2.2.1 (gIA, gIA) (by decide +kernel))) hce hcv hcl ?_
      refine lv_astore (lv' := [(6, .ref q9), (0, .ref lq), (1, .int (nI 29)), (2, .int a), (3, .int b), (4, .int cv), (5, .int dv)]) hx hb dL_call_234 hl (by decide) rfl (fun ls hl => ?_)
      refine lv_sipush (v := zI (-2012)) hx hb dL_call_236 (by decide) ?_
      exact gRi F dL_call_239 rfl u ⟨rfl, hp⟩ (gPl hP) (gDl hD) hS (by have h9 := hb1.2.2.1; omega) (by have h9 := hb1.2.2.2.1; omega)
    · refine vx_catch (own := RL) (name := gIS) (E := gIS) F.2.2.2.2.2.1 [⟨0, 227, 228, 66⟩, ⟨0, 227, 234, 68⟩] ⟨0, 227, 240, 70⟩ [] (by rw [htb]; rfl) (List.forall_mem_cons.mpr ⟨Or.inr ⟨by decide, gIO, F.2.2.2.2.2.2.1 (.classLink RL 66 gIO) (by decide +kernel), hKK.2.2.2.2.2.2.1 (gIS, gIO) (by decide +kernel)⟩, List.forall_mem_cons.mpr ⟨Or.inr ⟨by decide, gIA, F.2.2.2.2.2.2.1 (.classLink RL 68 gIA) (by decide +kernel), hKK.2.2.2.2.2.2.1 (gIS, gIA) (by decide +kernel)⟩, fun _ h_ => by cases h_⟩⟩) rfl (by decide) (F.2.2.2.2.2.2.1 (.classLink RL 70 gIS) (by decide +kernel)) (va_Nw.use rfl (hKK.2.2.2.2.2.1 (gIS, gIS) (by decide +kernel))) hce hcv hcl ?_
      refine lv_astore (lv' := [(6, .ref q9), (0, .ref lq), (1, .int (nI 29)), (2, .int a), (3, .int b), (4, .int cv), (5, .int dv)]) hx hb dL_call_240 hl (by decide) rfl (fun ls hl => ?_)
      refine lv_sipush (v := zI (-2013)) hx hb dL_call_242 (by decide) ?_
      exact gRi F dL_call_245 rfl u ⟨rfl, hp⟩ (gPl hP) (gDl hD) hS (by have h9 := hb1.2.2.1; omega) (by have h9 := hb1.2.2.2.1; omega)

set_option maxHeartbeats 4000000 in
set_option maxRecDepth 100000 in
theorem call_30 (l : Launch) (G : gG) (lq : Nat) (S S' : SpT) (a b cv dv : Int32) (r : Int) (h : DoV l G lq yX3_collectTaxes wsX3_collectTaxes [] S r S') : LW l G lq yL_call wsL_call { frames := 9, cells := 4, slots := 528, locals := 230 } [.int (nI 30), .int a, .int b, .int cv, .int dv] S (zI r) S' 4 528 := by
  intro wv hC
  refine gMw_mk (cc := cL_call) (nL := 7) (ret := some .int) (hh := [(0, 227, 228, 66), (0, 227, 234, 68), (0, 227, 240, 70)]) (Qc := fun A => va_Qi (S := va_W) (fun r' u => r' = zI r ∧ clS G lq u S') (gB G A (fun u => u)) A) (by decide) rfl (Nat.le_of_ble_eq_true rfl) ?_
  intro p e s m args below meth c A F htb hZ ls hl hP hD hS
  have hx := F.1
  have hb := F.2.1
  have hts := F.2.2.2.2.2.2.1
  have hKK := F.2.2.2.2.2.2.2.2.1
  have hl : lv_has ls 7 [(0, .ref lq), (1, .int (nI 30)), (2, .int a), (3, .int b), (4, .int cv), (5, .int dv)] := hl
  have hP : va_P G.1 vwCl (wv ++ []) s.heap := by rw [List.append_nil]; exact hP
  have hD : va_D A (wv ++ []) := by rw [List.append_nil]; exact hD
  generalize hH : s.heap = H at hP ⊢
  have hS0 : va_S A s.heap H [] := by rw [← hH]; exact va_S.rf
  clear hS
  have hS := hS0
  clear hS0
  generalize hLo : ([] : List Loc) = locs at hS ⊢
  refine lv_iload_n hx hb dL_call_0 rfl (lv_at hl 1 rfl) ?_
  refine bZT_ne (tgt := 17) hx hb dL_call_1 (by decide) (by decide) ?_
  refine lv_iload_n hx hb dL_call_17 rfl (lv_at hl 1 rfl) ?_
  refine lv_iconst (v := nI 1) hx hb dL_call_18 (by decide) ?_
  refine bIT_ne (tgt := 35) hx hb dL_call_19 (by decide) (by decide) ?_
  refine lv_iload_n hx hb dL_call_35 rfl (lv_at hl 1 rfl) ?_
  refine lv_iconst (v := nI 2) hx hb dL_call_36 (by decide) ?_
  refine bIT_ne (tgt := 48) hx hb dL_call_37 (by decide) (by decide) ?_
  refine lv_iload_n hx hb dL_call_48 rfl (lv_at hl 1 rfl) ?_
  refine lv_iconst (v := nI 3) hx hb dL_call_49 (by decide) ?_
  refine bIT_ne (tgt := 64) hx hb dL_call_50 (by decide) (by decide) ?_
  refine lv_iload_n hx hb dL_call_64 rfl (lv_at hl 1 rfl) ?_
  refine lv_iconst (v := nI 4) hx hb dL_call_65 (by decide) ?_
  refine bIT_ne (tgt := 82) hx hb dL_call_66 (by decide) (by decide) ?_
  refine lv_iload_n hx hb dL_call_82 rfl (lv_at hl 1 rfl) ?_
  refine lv_iconst (v := nI 5) hx hb dL_call_83 (by decide) ?_
  refine bIT_ne (tgt := 95) hx hb dL_call_84 (by decide) (by decide) ?_
  refine lv_iload_n hx hb dL_call_95 rfl (lv_at hl 1 rfl) ?_
  refine lv_bipush (v := nI 6) hx hb dL_call_96 (by decide) ?_
  refine bIT_ne (tgt := 109) hx hb dL_call_98 (by decide) (by decide) ?_
  refine lv_iload_n hx hb dL_call_109 rfl (lv_at hl 1 rfl) ?_
  refine lv_bipush (v := nI 7) hx hb dL_call_110 (by decide) ?_
  refine bIT_ne (tgt := 123) hx hb dL_call_112 (by decide) (by decide) ?_
  refine lv_iload_n hx hb dL_call_123 rfl (lv_at hl 1 rfl) ?_
  refine lv_bipush (v := nI 8) hx hb dL_call_124 (by decide) ?_
  refine bIT_ne (tgt := 136) hx hb dL_call_126 (by decide) (by decide) ?_
  refine lv_iload_n hx hb dL_call_136 rfl (lv_at hl 1 rfl) ?_
  refine lv_bipush (v := nI 9) hx hb dL_call_137 (by decide) ?_
  refine bIT_ne (tgt := 149) hx hb dL_call_139 (by decide) (by decide) ?_
  refine lv_iload_n hx hb dL_call_149 rfl (lv_at hl 1 rfl) ?_
  refine lv_bipush (v := nI 10) hx hb dL_call_150 (by decide) ?_
  refine bIT_ne (tgt := 163) hx hb dL_call_152 (by decide) (by decide) ?_
  refine lv_iload_n hx hb dL_call_163 rfl (lv_at hl 1 rfl) ?_
  refine lv_bipush (v := nI 11) hx hb dL_call_164 (by decide) ?_
  refine bIT_ne (tgt := 177) hx hb dL_call_166 (by decide) (by decide) ?_
  refine lv_iload_n hx hb dL_call_177 rfl (lv_at hl 1 rfl) ?_
  refine lv_bipush (v := nI 17) hx hb dL_call_178 (by decide) ?_
  refine bIT_ge (tgt := 193) hx hb dL_call_180 (by decide) (by decide) ?_
  refine lv_iload_n hx hb dL_call_193 rfl (lv_at hl 1 rfl) ?_
  refine lv_bipush (v := nI 29) hx hb dL_call_194 (by decide) ?_
  refine bIT_ge (tgt := 209) hx hb dL_call_196 (by decide) (by decide) ?_
  refine lv_iload_n hx hb dL_call_209 rfl (lv_at hl 1 rfl) ?_
  refine lv_bipush (v := nI 29) hx hb dL_call_210 (by decide) ?_
  refine bIT_ne (tgt := 223) hx hb dL_call_212 (by decide) (by decide) ?_
  refine lv_aload_n hx hb dL_call_223 rfl (lv_at hl 0 rfl) ?_
  rcases h with ⟨rm, mc, ms, hb1, hM⟩ | ⟨E, rm, mc, ms, hb1, rfl, hE, hM⟩
  · refine lqV (own := RL) (index := 63) (bytes := cX3_collectTaxes) (n := 0) (As := []) (rest := []) (c2 := 4) (s2 := 528) F hM hC gL_call_X3_collectTaxes rfl rfl hb1.1 hb1.2.1 (by decide +kernel) rfl ⟨by have h9 := hb1.2.2.2.2.1; show rm.frames + 1 ≤ 9; omega, by have h9 := hb1.2.2.2.2.2; show 8 + (2 + 11) + rm.locals ≤ 230; omega⟩ hP hD hS rfl hl.1 (Nat.le_of_ble_eq_true rfl) dL_call_224 ⟨by have h9 := hb1.2.2.1; omega, by have h9 := hb1.2.2.2.1; omega⟩ ⟨Nat.le_of_ble_eq_true rfl, Nat.le_of_ble_eq_true rfl⟩ (fun u H locs hC hP hD hS => ?_)
    exact gRi F dL_call_227 rfl u ⟨rfl, hC⟩ (gPl hP) (gDl hD) hS (Nat.le_of_ble_eq_true rfl) (Nat.le_of_ble_eq_true rfl)
  · obtain ⟨fs, h0⟩ := cl_recv hC
    refine gXrun F (gRunVx (own := RL) (C := RX3) (ci := 3) (bytes := cX3_collectTaxes) (n := 0) (As := []) (rest := []) F hZ hS (hM wv hC H.size) gL_call_X3_collectTaxes rfl rfl hb1.1 hb1.2.1 (by decide +kernel) rfl ⟨by have h9 := hb1.2.2.2.2.1; show rm.frames + 1 ≤ 9; omega, by have h9 := hb1.2.2.2.2.2; show 8 + (2 + 11) + rm.locals ≤ 230; omega⟩ hP hD (lit := wv) (wt := []) (wc := wv) (isC := List.range wv.length) (gRange wv) (gRange_nd _) rfl h0 rfl hl.1 (Nat.le_of_ble_eq_true rfl) dL_call_224 ⟨by have h9 := hb1.2.2.1; show 0 + mc ≤ 4; omega, by have h9 := hb1.2.2.2.1; show 0 + ms ≤ 528; omega⟩) hP hD hS (lit := wv) (wt := []) (wc := wv) (isC := List.range wv.length) (wr := []) (isR := []) (gRange wv) rfl rfl (fun _ h_ => by cases h_) (fun ce q9 u H locs hp hP hD hS hce hcv hcl => ?_)
    have hP : va_P G.1 vwCl (u ++ []) H := hP
    have hD : va_D A (u ++ []) := hD
    rcases hE with ⟨rfl, rfl⟩ | ⟨rfl, rfl⟩ | ⟨rfl, rfl⟩
    · refine vx_catch (own := RL) (name := gIO) (E := gIO) F.2.2.2.2.2.1 [] ⟨0, 227, 228, 66⟩ [⟨0, 227, 234, 68⟩, ⟨0, 227, 240, 70⟩] (by rw [htb]; rfl) (fun _ h_ => by cases h_) rfl (by decide) (F.2.2.2.2.2.2.1 (.classLink RL 66 gIO) (by decide +kernel)) (va_Nw.use rfl (hKK.2.2.2.2.2.1 (gIO, gIO) (by decide +kernel))) hce hcv hcl ?_
      refine lv_astore (lv' := [(6, .ref q9), (0, .ref lq), (1, .int (nI 30)), (2, .int a), (3, .int b), (4, .int cv), (5, .int dv)]) hx hb dL_call_228 hl (by decide) rfl (fun ls hl => ?_)
      refine lv_sipush (v := zI (-2011)) hx hb dL_call_230 (by decide) ?_
      exact gRi F dL_call_233 rfl u ⟨rfl, hp⟩ (gPl hP) (gDl hD) hS (by have h9 := hb1.2.2.1; omega) (by have h9 := hb1.2.2.2.1; omega)
    · refine vx_catch (own := RL) (name := gIA) (E := gIA) F.2.2.2.2.2.1 [⟨0, 227, 228, 66⟩] ⟨0, 227, 234, 68⟩ [⟨0, 227, 240, 70⟩] (by rw [htb]; rfl) (List.forall_mem_cons.mpr ⟨Or.inr ⟨by decide, gIO, F.2.2.2.2.2.2.1 (.classLink RL 66 gIO) (by decide +kernel), hKK.2.2.2.2.2.2.1 (gIA, gIO) (by decide +kernel)⟩, fun _ h_ => by cases h_⟩) rfl (by decide) (F.2.2.2.2.2.2.1 (.classLink RL 68 gIA) (by decide +kernel)) (va_Nw.use rfl (hKK.2.2.2.2.2.1 (gIA, gIA) (by decide +kernel))) hce hcv hcl ?_
      refine lv_astore (lv' := [(6, .ref q9), (0, .ref lq), (1, .int (nI 30)), (2, .int a), (3, .int b), (4, .int cv), (5, .int dv)]) hx hb dL_call_234 hl (by decide) rfl (fun ls hl => ?_)
      refine lv_sipush (v := zI (-2012)) hx hb dL_call_236 (by decide) ?_
      exact gRi F dL_call_239 rfl u ⟨rfl, hp⟩ (gPl hP) (gDl hD) hS (by have h9 := hb1.2.2.1; omega) (by have h9 := hb1.2.2.2.1; omega)
    · refine vx_catch (own := RL) (name := gIS) (E := gIS) F.2.2.2.2.2.1 [⟨0, 227, 228, 66⟩, ⟨0, 227, 234, 68⟩] ⟨0, 227, 240, 70⟩ [] (by rw [htb]; rfl) (List.forall_mem_cons.mpr ⟨Or.inr ⟨by decide, gIO, F.2.2.2.2.2.2.1 (.classLink RL 66 gIO) (by decide +kernel), hKK.2.2.2.2.2.2.1 (gIS, gIO) (by decide +kernel)⟩, List.forall_mem_cons.mpr ⟨Or.inr ⟨by decide, gIA, F.2.2.2.2.2.2.1 (.classLink RL 68 gIA) (by decide +kernel), hKK.2.2.2.2.2.2.1 (gIS, gIA) (by decide +kernel)⟩, fun _ h_ => by cases h_⟩⟩) rfl (by decide) (F.2.2.2.2.2.2.1 (.classLink RL 70 gIS) (by decide +kernel)) (va_Nw.use rfl (hKK.2.2.2.2.2.1 (gIS, gIS) (by decide +kernel))) hce hcv hcl ?_
      refine lv_astore (lv' := [(6, .ref q9), (0, .ref lq), (1, .int (nI 30)), (2, .int a), (3, .int b), (4, .int cv), (5, .int dv)]) hx hb dL_call_240 hl (by decide) rfl (fun ls hl => ?_)
      refine lv_sipush (v := zI (-2013)) hx hb dL_call_242 (by decide) ?_
      exact gRi F dL_call_245 rfl u ⟨rfl, hp⟩ (gPl hP) (gDl hD) hS (by have h9 := hb1.2.2.1; omega) (by have h9 := hb1.2.2.2.1; omega)

set_option maxHeartbeats 4000000 in
set_option maxRecDepth 100000 in
theorem c_X2_count (l : Launch) (G : gG) (v : Nat) (b1 : Nat) (b2 : Nat) (b3 : Nat) (b4 : Nat) (b5 : Nat) (h : Nat) (ra : Nat → Nat) (so : Nat → Nat) (cx : Nat → Nat) (cy : Nat → Nat) (zs : Nat → Nat) (n : Nat) : gMi (S := Unit) l yX2_count wsX2_count { frames := 0, cells := 0, slots := 0, locals := 0 } G [.ref v] [(v, .inr (2, [.ref h, .ref b1, .ref b2, .ref b3, .ref b4, .ref b5, .int (nI n)])), (b1, .inl (G.2.1, 256, .inl (gn ra))), (b2, .inl (G.2.1, 256, .inl (gn so))), (b3, .inl (G.2.1, 256, .inl (gn cx))), (b4, .inl (G.2.1, 256, .inl (gn cy))), (b5, .inl (G.2.1, 256, .inl (gn zs)))] (fun (r : Int32) (u : Unit) => (r = nI n)) (fun u => [(v, .inr (2, [.ref h, .ref b1, .ref b2, .ref b3, .ref b4, .ref b5, .int (nI n)])), (b1, .inl (G.2.1, 256, .inl (gn ra))), (b2, .inl (G.2.1, 256, .inl (gn so))), (b3, .inl (G.2.1, 256, .inl (gn cx))), (b4, .inl (G.2.1, 256, .inl (gn cy))), (b5, .inl (G.2.1, 256, .inl (gn zs)))]) 0 0 := by
  refine gMet_mk (cc := cX2_count) (nL := 1) (ret := (some .int)) (Qc := fun A => va_Qi (S := Unit) (fun (r : Int32) (u : Unit) => (r = nI n)) (gB G A (fun (u : Unit) => [(v, .inr (2, [.ref h, .ref b1, .ref b2, .ref b3, .ref b4, .ref b5, .int (nI n)])), (b1, .inl (G.2.1, 256, .inl (gn ra))), (b2, .inl (G.2.1, 256, .inl (gn so))), (b3, .inl (G.2.1, 256, .inl (gn cx))), (b4, .inl (G.2.1, 256, .inl (gn cy))), (b5, .inl (G.2.1, 256, .inl (gn zs)))])) A) (by decide) rfl (Nat.le_of_ble_eq_true rfl) ?_
  intro p e s m args below meth c A F ls hl hP hD hS
  have hx := F.1
  have hb := F.2.1
  have hts := F.2.2.2.2.2.2.1
  have hown : s.vm.findClass RX2 = some m.cls := F.2.2.2.2.2.1
  have hKK := F.2.2.2.2.2.2.2.2.1
  have hK := hKK.1
  have hin0 := F.2.2.2.2.2.2.2.1
  have hi2 : ∀ w ∈ u_ws RX2 TX2 7, w ∈ wsX2_count := by decide +kernel
  have hl : lv_has ls 1 [(0, .ref v)] := hl
  generalize hH : s.heap = H at hP ⊢
  have hS : va_S A s.heap H [] := by rw [← hH]; exact va_S.rf
  generalize hLo : ([] : List Loc) = locs at hS ⊢
  refine lv_aload_n hx hb dX2_count_0 rfl (lv_at hl 0 rfl) ?_
  refine va_get (D := G.1) (ci := 2) (v := .int (nI n)) (C := RX2) (T := TX2) (N := 7) hx hb hts hi2 hown hK hP 0 rfl rfl 6 (by decide) (hts (.fieldLink RX2 34 "LandQuarters$Survey" "plotCount" "I") (by decide +kernel)) (fun _ h9 => h9) rfl dX2_count_1 ?_
  exact gRi F dX2_count_4 (rfl) () (rfl) hP hD hS (Nat.le_refl _) (Nat.le_refl _)

set_option maxHeartbeats 4000000 in
set_option maxRecDepth 100000 in
theorem c_X2_isPlot (l : Launch) (G : gG) (v : Nat) (b1 : Nat) (b2 : Nat) (b3 : Nat) (b4 : Nat) (b5 : Nat) (h : Nat) (ra : Nat → Nat) (so : Nat → Nat) (cx : Nat → Nat) (cy : Nat → Nat) (zs : Nat → Nat) (n : Nat) (rr : Int) (hrr : -2147483648 ≤ rr ∧ rr < 2147483648) (hn : n ≤ 256) : gMi (S := Unit) l yX2_isPlot wsX2_isPlot { frames := 0, cells := 0, slots := 0, locals := 0 } G [.ref v, .int (zI rr)] [(v, .inr (2, [.ref h, .ref b1, .ref b2, .ref b3, .ref b4, .ref b5, .int (nI n)])), (b1, .inl (G.2.1, 256, .inl (gn ra))), (b2, .inl (G.2.1, 256, .inl (gn so))), (b3, .inl (G.2.1, 256, .inl (gn cx))), (b4, .inl (G.2.1, 256, .inl (gn cy))), (b5, .inl (G.2.1, 256, .inl (gn zs)))] (fun (r : Int32) (u : Unit) => (r = nI (if (0 ≤ rr ∧ rr < (n : Int)) then 1 else 0))) (fun u => [(v, .inr (2, [.ref h, .ref b1, .ref b2, .ref b3, .ref b4, .ref b5, .int (nI n)])), (b1, .inl (G.2.1, 256, .inl (gn ra))), (b2, .inl (G.2.1, 256, .inl (gn so))), (b3, .inl (G.2.1, 256, .inl (gn cx))), (b4, .inl (G.2.1, 256, .inl (gn cy))), (b5, .inl (G.2.1, 256, .inl (gn zs)))]) 0 0 := by
  refine gMet_mk (cc := cX2_isPlot) (nL := 2) (ret := (some .boolean)) (Qc := fun A => va_Qi (S := Unit) (fun (r : Int32) (u : Unit) => (r = nI (if (0 ≤ rr ∧ rr < (n : Int)) then 1 else 0))) (gB G A (fun (u : Unit) => [(v, .inr (2, [.ref h, .ref b1, .ref b2, .ref b3, .ref b4, .ref b5, .int (nI n)])), (b1, .inl (G.2.1, 256, .inl (gn ra))), (b2, .inl (G.2.1, 256, .inl (gn so))), (b3, .inl (G.2.1, 256, .inl (gn cx))), (b4, .inl (G.2.1, 256, .inl (gn cy))), (b5, .inl (G.2.1, 256, .inl (gn zs)))])) A) (by decide) rfl (Nat.le_of_ble_eq_true rfl) ?_
  intro p e s m args below meth c A F ls hl hP hD hS
  have hx := F.1
  have hb := F.2.1
  have hts := F.2.2.2.2.2.2.1
  have hown : s.vm.findClass RX2 = some m.cls := F.2.2.2.2.2.1
  have hKK := F.2.2.2.2.2.2.2.2.1
  have hK := hKK.1
  have hin0 := F.2.2.2.2.2.2.2.1
  have hi2 : ∀ w ∈ u_ws RX2 TX2 7, w ∈ wsX2_isPlot := by decide +kernel
  have hl : lv_has ls 2 [(0, .ref v), (1, .int (zI rr))] := hl
  generalize hH : s.heap = H at hP ⊢
  have hS : va_S A s.heap H [] := by rw [← hH]; exact va_S.rf
  generalize hLo : ([] : List Loc) = locs at hS ⊢
  refine lv_iload_n hx hb dX2_isPlot_0 rfl (lv_at hl 1 rfl) ?_
  refine gZf_lt (a := rr) (tgt := 23) hx hb dX2_isPlot_1 (by decide) (by omega) (fun c1 => ?_) (fun c1 => ?_)
  · skip
    refine lv_iconst (v := nI 0) hx hb dX2_isPlot_23 (by decide) ?_
    exact gRi F dX2_isPlot_24 (gNarZ (by decide)) () (by first | rfl | (rw [if_pos (by omega)]) | (rw [if_neg (by omega)])) hP hD hS (Nat.le_refl _) (Nat.le_refl _)
  refine lv_iload_n hx hb dX2_isPlot_4 rfl (lv_at hl 1 rfl) ?_
  refine lv_aload_n hx hb dX2_isPlot_5 rfl (lv_at hl 0 rfl) ?_
  refine va_get (D := G.1) (ci := 2) (v := .int (nI n)) (C := RX2) (T := TX2) (N := 7) hx hb hts hi2 hown hK hP 0 rfl rfl 6 (by decide) (hts (.fieldLink RX2 34 "LandQuarters$Survey" "plotCount" "I") (by decide +kernel)) (fun _ h9 => h9) rfl dX2_isPlot_6 ?_
  refine W.eq (g2 := F0 m 9 ls [.int (zI ((n : Nat) : Int)), .int (zI rr)]) (by simp only [zI_nat]) ?_
  refine gZcmp_ge (a := rr) (b := ((n : Nat) : Int)) (tgt := 23) hx hb dX2_isPlot_9 (by decide) (by omega) (by omega) (fun c9 => ?_) (fun c9 => ?_)
  · skip
    refine lv_iconst (v := nI 0) hx hb dX2_isPlot_23 (by decide) ?_
    exact gRi F dX2_isPlot_24 (gNarZ (by decide)) () (by first | rfl | (rw [if_pos (by omega)]) | (rw [if_neg (by omega)])) hP hD hS (Nat.le_refl _) (Nat.le_refl _)
  refine lv_iload_n hx hb dX2_isPlot_12 rfl (lv_at hl 1 rfl) ?_
  refine lv_sipush (v := nI 256) hx hb dX2_isPlot_13 (by decide) ?_
  refine W.eq (g2 := F0 m 16 ls [.int (zI ((256 : Nat) : Int)), .int (zI rr)]) (by simp only [zI_nat]) ?_
  refine gZcmp_ge (a := rr) (b := ((256 : Nat) : Int)) (tgt := 23) hx hb dX2_isPlot_16 (by decide) (by omega) (by omega) (fun c16 => ?_) (fun c16 => ?_)
  · skip
    exfalso; omega
  refine lv_iconst (v := nI 1) hx hb dX2_isPlot_19 (by decide) ?_
  refine lv_goto (tgt := 24) hx hb dX2_isPlot_20 (by decide) ?_
  exact gRi F dX2_isPlot_24 (gNarZ (by decide)) () (by first | rfl | (rw [if_pos (by omega)]) | (rw [if_neg (by omega)])) hP hD hS (Nat.le_refl _) (Nat.le_refl _)

set_option maxHeartbeats 4000000 in
set_option maxRecDepth 100000 in
theorem c_X2_cornerX (l : Launch) (G : gG) (v : Nat) (b1 : Nat) (b2 : Nat) (b3 : Nat) (b4 : Nat) (b5 : Nat) (h : Nat) (ra : Nat → Nat) (so : Nat → Nat) (cx : Nat → Nat) (cy : Nat → Nat) (zs : Nat → Nat) (n : Nat) (rr : Nat) (hr : rr < n) (hn : n ≤ 256) : gMi (S := Unit) l yX2_cornerX wsX2_cornerX { frames := 1, cells := 0, slots := 0, locals := 21 } G [.ref v, .int (nI rr)] [(v, .inr (2, [.ref h, .ref b1, .ref b2, .ref b3, .ref b4, .ref b5, .int (nI n)])), (b1, .inl (G.2.1, 256, .inl (gn ra))), (b2, .inl (G.2.1, 256, .inl (gn so))), (b3, .inl (G.2.1, 256, .inl (gn cx))), (b4, .inl (G.2.1, 256, .inl (gn cy))), (b5, .inl (G.2.1, 256, .inl (gn zs)))] (fun (r : Int32) (u : Unit) => (r = nI (cx rr))) (fun u => [(v, .inr (2, [.ref h, .ref b1, .ref b2, .ref b3, .ref b4, .ref b5, .int (nI n)])), (b1, .inl (G.2.1, 256, .inl (gn ra))), (b2, .inl (G.2.1, 256, .inl (gn so))), (b3, .inl (G.2.1, 256, .inl (gn cx))), (b4, .inl (G.2.1, 256, .inl (gn cy))), (b5, .inl (G.2.1, 256, .inl (gn zs)))]) 0 0 := by
  refine gMet_mk (cc := cX2_cornerX) (nL := 2) (ret := (some .int)) (Qc := fun A => va_Qi (S := Unit) (fun (r : Int32) (u : Unit) => (r = nI (cx rr))) (gB G A (fun (u : Unit) => [(v, .inr (2, [.ref h, .ref b1, .ref b2, .ref b3, .ref b4, .ref b5, .int (nI n)])), (b1, .inl (G.2.1, 256, .inl (gn ra))), (b2, .inl (G.2.1, 256, .inl (gn so))), (b3, .inl (G.2.1, 256, .inl (gn cx))), (b4, .inl (G.2.1, 256, .inl (gn cy))), (b5, .inl (G.2.1, 256, .inl (gn zs)))])) A) (by decide) rfl (Nat.le_of_ble_eq_true rfl) ?_
  intro p e s m args below meth c A F ls hl hP hD hS
  have hx := F.1
  have hb := F.2.1
  have hts := F.2.2.2.2.2.2.1
  have hown : s.vm.findClass RX2 = some m.cls := F.2.2.2.2.2.1
  have hKK := F.2.2.2.2.2.2.2.2.1
  have hK := hKK.1
  have hin0 := F.2.2.2.2.2.2.2.1
  have hi2 : ∀ w ∈ u_ws RX2 TX2 7, w ∈ wsX2_cornerX := by decide +kernel
  have hl : lv_has ls 2 [(0, .ref v), (1, .int (nI rr))] := hl
  generalize hH : s.heap = H at hP ⊢
  have hS : va_S A s.heap H [] := by rw [← hH]; exact va_S.rf
  generalize hLo : ([] : List Loc) = locs at hS ⊢
  refine lv_aload_n hx hb dX2_cornerX_0 rfl (lv_at hl 0 rfl) ?_
  refine lv_iload_n hx hb dX2_cornerX_1 rfl (lv_at hl 1 rfl) ?_
  refine W.eq (g2 := F0 m 2 ls [.int (zI ((rr : Nat) : Int)), .ref v]) (by simp only [zI_nat, zI_neg1]) ?_
  refine gCi F (gRunV (own := RX2) (C := RX2) (ci := 2) (bytes := cX2_isPlot) (n := 1) (As := [.int (zI ((rr : Nat) : Int))]) (rest := []) F (c_X2_isPlot l G v b1 b2 b3 b4 b5 h ra so cx cy zs n ((rr : Nat) : Int) (by first | assumption | omega) (by first | assumption | omega) H.size) gX2_cornerX_X2_isPlot rfl rfl rfl rfl (by decide +kernel) rfl ⟨Nat.le_of_ble_eq_true rfl, Nat.le_of_ble_eq_true rfl⟩ hP hD (lit := [(v, .inr (2, [.ref h, .ref b1, .ref b2, .ref b3, .ref b4, .ref b5, .int (nI n)])), (b1, .inl (G.2.1, 256, .inl (gn ra))), (b2, .inl (G.2.1, 256, .inl (gn so))), (b3, .inl (G.2.1, 256, .inl (gn cx))), (b4, .inl (G.2.1, 256, .inl (gn cy))), (b5, .inl (G.2.1, 256, .inl (gn zs)))]) (wt := []) (wc := [(v, .inr (2, [.ref h, .ref b1, .ref b2, .ref b3, .ref b4, .ref b5, .int (nI n)])), (b1, .inl (G.2.1, 256, .inl (gn ra))), (b2, .inl (G.2.1, 256, .inl (gn so))), (b3, .inl (G.2.1, 256, .inl (gn cx))), (b4, .inl (G.2.1, 256, .inl (gn cy))), (b5, .inl (G.2.1, 256, .inl (gn zs)))]) (isC := [0, 1, 2, 3, 4, 5]) rfl (by decide) rfl rfl rfl hl.1 (Nat.le_of_ble_eq_true rfl) dX2_cornerX_2 ⟨Nat.le_of_ble_eq_true rfl, Nat.le_of_ble_eq_true rfl⟩) hP hD hS (lit := [(v, .inr (2, [.ref h, .ref b1, .ref b2, .ref b3, .ref b4, .ref b5, .int (nI n)])), (b1, .inl (G.2.1, 256, .inl (gn ra))), (b2, .inl (G.2.1, 256, .inl (gn so))), (b3, .inl (G.2.1, 256, .inl (gn cx))), (b4, .inl (G.2.1, 256, .inl (gn cy))), (b5, .inl (G.2.1, 256, .inl (gn zs)))]) (wt := []) (wc := [(v, .inr (2, [.ref h, .ref b1, .ref b2, .ref b3, .ref b4, .ref b5, .int (nI n)])), (b1, .inl (G.2.1, 256, .inl (gn ra))), (b2, .inl (G.2.1, 256, .inl (gn so))), (b3, .inl (G.2.1, 256, .inl (gn cx))), (b4, .inl (G.2.1, 256, .inl (gn cy))), (b5, .inl (G.2.1, 256, .inl (gn zs)))]) (wr := []) (isC := [0, 1, 2, 3, 4, 5]) (isR := []) rfl rfl (by decide) (by decide) (fun r2 u H locs hp2 hP hD hS => ?_)
  subst hp2
  have hP : va_P G.1 vwCl [(v, .inr (2, [.ref h, .ref b1, .ref b2, .ref b3, .ref b4, .ref b5, .int (nI n)])), (b1, .inl (G.2.1, 256, .inl (gn ra))), (b2, .inl (G.2.1, 256, .inl (gn so))), (b3, .inl (G.2.1, 256, .inl (gn cx))), (b4, .inl (G.2.1, 256, .inl (gn cy))), (b5, .inl (G.2.1, 256, .inl (gn zs)))] H := hP
  have hD : va_D A [(v, .inr (2, [.ref h, .ref b1, .ref b2, .ref b3, .ref b4, .ref b5, .int (nI n)])), (b1, .inl (G.2.1, 256, .inl (gn ra))), (b2, .inl (G.2.1, 256, .inl (gn so))), (b3, .inl (G.2.1, 256, .inl (gn cx))), (b4, .inl (G.2.1, 256, .inl (gn cy))), (b5, .inl (G.2.1, 256, .inl (gn zs)))] := hD
  refine gIfB_eq (P := (0 ≤ ((rr : Nat) : Int) ∧ ((rr : Nat) : Int) < (n : Int))) (tgt := 17) hx hb dX2_cornerX_5 (by decide) (fun c5 => ?_) (fun c5 => ?_)
  · skip
    exfalso; omega
  refine lv_aload_n hx hb dX2_cornerX_8 rfl (lv_at hl 0 rfl) ?_
  refine va_get (D := G.1) (ci := 2) (v := .ref b3) (C := RX2) (T := TX2) (N := 7) hx hb hts hi2 hown hK hP 0 rfl rfl 3 (by decide) (hts (.fieldLink RX2 25 "LandQuarters$Survey" "cornerXs" "[I") (by decide +kernel)) (fun _ h9 => h9) rfl dX2_cornerX_9 ?_
  refine lv_iload_n hx hb dX2_cornerX_12 rfl (lv_at hl 1 rfl) ?_
  refine gNald (k := rr) hx hb hK hP 3 0 rfl rfl (by omega) (by first | decide | omega) dX2_cornerX_13 ?_
  refine lv_goto (tgt := 18) hx hb dX2_cornerX_14 (by decide) ?_
  exact gRi F dX2_cornerX_18 (rfl) () (rfl) hP hD hS (Nat.le_refl _) (Nat.le_refl _)

set_option maxHeartbeats 4000000 in
set_option maxRecDepth 100000 in
theorem c_X2_cornerY (l : Launch) (G : gG) (v : Nat) (b1 : Nat) (b2 : Nat) (b3 : Nat) (b4 : Nat) (b5 : Nat) (h : Nat) (ra : Nat → Nat) (so : Nat → Nat) (cx : Nat → Nat) (cy : Nat → Nat) (zs : Nat → Nat) (n : Nat) (rr : Nat) (hr : rr < n) (hn : n ≤ 256) : gMi (S := Unit) l yX2_cornerY wsX2_cornerY { frames := 1, cells := 0, slots := 0, locals := 21 } G [.ref v, .int (nI rr)] [(v, .inr (2, [.ref h, .ref b1, .ref b2, .ref b3, .ref b4, .ref b5, .int (nI n)])), (b1, .inl (G.2.1, 256, .inl (gn ra))), (b2, .inl (G.2.1, 256, .inl (gn so))), (b3, .inl (G.2.1, 256, .inl (gn cx))), (b4, .inl (G.2.1, 256, .inl (gn cy))), (b5, .inl (G.2.1, 256, .inl (gn zs)))] (fun (r : Int32) (u : Unit) => (r = nI (cy rr))) (fun u => [(v, .inr (2, [.ref h, .ref b1, .ref b2, .ref b3, .ref b4, .ref b5, .int (nI n)])), (b1, .inl (G.2.1, 256, .inl (gn ra))), (b2, .inl (G.2.1, 256, .inl (gn so))), (b3, .inl (G.2.1, 256, .inl (gn cx))), (b4, .inl (G.2.1, 256, .inl (gn cy))), (b5, .inl (G.2.1, 256, .inl (gn zs)))]) 0 0 := by
  refine gMet_mk (cc := cX2_cornerY) (nL := 2) (ret := (some .int)) (Qc := fun A => va_Qi (S := Unit) (fun (r : Int32) (u : Unit) => (r = nI (cy rr))) (gB G A (fun (u : Unit) => [(v, .inr (2, [.ref h, .ref b1, .ref b2, .ref b3, .ref b4, .ref b5, .int (nI n)])), (b1, .inl (G.2.1, 256, .inl (gn ra))), (b2, .inl (G.2.1, 256, .inl (gn so))), (b3, .inl (G.2.1, 256, .inl (gn cx))), (b4, .inl (G.2.1, 256, .inl (gn cy))), (b5, .inl (G.2.1, 256, .inl (gn zs)))])) A) (by decide) rfl (Nat.le_of_ble_eq_true rfl) ?_
  intro p e s m args below meth c A F ls hl hP hD hS
  have hx := F.1
  have hb := F.2.1
  have hts := F.2.2.2.2.2.2.1
  have hown : s.vm.findClass RX2 = some m.cls := F.2.2.2.2.2.1
  have hKK := F.2.2.2.2.2.2.2.2.1
  have hK := hKK.1
  have hin0 := F.2.2.2.2.2.2.2.1
  have hi2 : ∀ w ∈ u_ws RX2 TX2 7, w ∈ wsX2_cornerY := by decide +kernel
  have hl : lv_has ls 2 [(0, .ref v), (1, .int (nI rr))] := hl
  generalize hH : s.heap = H at hP ⊢
  have hS : va_S A s.heap H [] := by rw [← hH]; exact va_S.rf
  generalize hLo : ([] : List Loc) = locs at hS ⊢
  refine lv_aload_n hx hb dX2_cornerY_0 rfl (lv_at hl 0 rfl) ?_
  refine lv_iload_n hx hb dX2_cornerY_1 rfl (lv_at hl 1 rfl) ?_
  refine W.eq (g2 := F0 m 2 ls [.int (zI ((rr : Nat) : Int)), .ref v]) (by simp only [zI_nat, zI_neg1]) ?_
  refine gCi F (gRunV (own := RX2) (C := RX2) (ci := 2) (bytes := cX2_isPlot) (n := 1) (As := [.int (zI ((rr : Nat) : Int))]) (rest := []) F (c_X2_isPlot l G v b1 b2 b3 b4 b5 h ra so cx cy zs n ((rr : Nat) : Int) (by first | assumption | omega) (by first | assumption | omega) H.size) gX2_cornerY_X2_isPlot rfl rfl rfl rfl (by decide +kernel) rfl ⟨Nat.le_of_ble_eq_true rfl, Nat.le_of_ble_eq_true rfl⟩ hP hD (lit := [(v, .inr (2, [.ref h, .ref b1, .ref b2, .ref b3, .ref b4, .ref b5, .int (nI n)])), (b1, .inl (G.2.1, 256, .inl (gn ra))), (b2, .inl (G.2.1, 256, .inl (gn so))), (b3, .inl (G.2.1, 256, .inl (gn cx))), (b4, .inl (G.2.1, 256, .inl (gn cy))), (b5, .inl (G.2.1, 256, .inl (gn zs)))]) (wt := []) (wc := [(v, .inr (2, [.ref h, .ref b1, .ref b2, .ref b3, .ref b4, .ref b5, .int (nI n)])), (b1, .inl (G.2.1, 256, .inl (gn ra))), (b2, .inl (G.2.1, 256, .inl (gn so))), (b3, .inl (G.2.1, 256, .inl (gn cx))), (b4, .inl (G.2.1, 256, .inl (gn cy))), (b5, .inl (G.2.1, 256, .inl (gn zs)))]) (isC := [0, 1, 2, 3, 4, 5]) rfl (by decide) rfl rfl rfl hl.1 (Nat.le_of_ble_eq_true rfl) dX2_cornerY_2 ⟨Nat.le_of_ble_eq_true rfl, Nat.le_of_ble_eq_true rfl⟩) hP hD hS (lit := [(v, .inr (2, [.ref h, .ref b1, .ref b2, .ref b3, .ref b4, .ref b5, .int (nI n)])), (b1, .inl (G.2.1, 256, .inl (gn ra))), (b2, .inl (G.2.1, 256, .inl (gn so))), (b3, .inl (G.2.1, 256, .inl (gn cx))), (b4, .inl (G.2.1, 256, .inl (gn cy))), (b5, .inl (G.2.1, 256, .inl (gn zs)))]) (wt := []) (wc := [(v, .inr (2, [.ref h, .ref b1, .ref b2, .ref b3, .ref b4, .ref b5, .int (nI n)])), (b1, .inl (G.2.1, 256, .inl (gn ra))), (b2, .inl (G.2.1, 256, .inl (gn so))), (b3, .inl (G.2.1, 256, .inl (gn cx))), (b4, .inl (G.2.1, 256, .inl (gn cy))), (b5, .inl (G.2.1, 256, .inl (gn zs)))]) (wr := []) (isC := [0, 1, 2, 3, 4, 5]) (isR := []) rfl rfl (by decide) (by decide) (fun r2 u H locs hp2 hP hD hS => ?_)
  subst hp2
  have hP : va_P G.1 vwCl [(v, .inr (2, [.ref h, .ref b1, .ref b2, .ref b3, .ref b4, .ref b5, .int (nI n)])), (b1, .inl (G.2.1, 256, .inl (gn ra))), (b2, .inl (G.2.1, 256, .inl (gn so))), (b3, .inl (G.2.1, 256, .inl (gn cx))), (b4, .inl (G.2.1, 256, .inl (gn cy))), (b5, .inl (G.2.1, 256, .inl (gn zs)))] H := hP
  have hD : va_D A [(v, .inr (2, [.ref h, .ref b1, .ref b2, .ref b3, .ref b4, .ref b5, .int (nI n)])), (b1, .inl (G.2.1, 256, .inl (gn ra))), (b2, .inl (G.2.1, 256, .inl (gn so))), (b3, .inl (G.2.1, 256, .inl (gn cx))), (b4, .inl (G.2.1, 256, .inl (gn cy))), (b5, .inl (G.2.1, 256, .inl (gn zs)))] := hD
  refine gIfB_eq (P := (0 ≤ ((rr : Nat) : Int) ∧ ((rr : Nat) : Int) < (n : Int))) (tgt := 17) hx hb dX2_cornerY_5 (by decide) (fun c5 => ?_) (fun c5 => ?_)
  · skip
    exfalso; omega
  refine lv_aload_n hx hb dX2_cornerY_8 rfl (lv_at hl 0 rfl) ?_
  refine va_get (D := G.1) (ci := 2) (v := .ref b4) (C := RX2) (T := TX2) (N := 7) hx hb hts hi2 hown hK hP 0 rfl rfl 4 (by decide) (hts (.fieldLink RX2 28 "LandQuarters$Survey" "cornerYs" "[I") (by decide +kernel)) (fun _ h9 => h9) rfl dX2_cornerY_9 ?_
  refine lv_iload_n hx hb dX2_cornerY_12 rfl (lv_at hl 1 rfl) ?_
  refine gNald (k := rr) hx hb hK hP 4 0 rfl rfl (by omega) (by first | decide | omega) dX2_cornerY_13 ?_
  refine lv_goto (tgt := 18) hx hb dX2_cornerY_14 (by decide) ?_
  exact gRi F dX2_cornerY_18 (rfl) () (rfl) hP hD hS (Nat.le_refl _) (Nat.le_refl _)

set_option maxHeartbeats 4000000 in
set_option maxRecDepth 100000 in
theorem c_X2_sizeOf (l : Launch) (G : gG) (v : Nat) (b1 : Nat) (b2 : Nat) (b3 : Nat) (b4 : Nat) (b5 : Nat) (h : Nat) (ra : Nat → Nat) (so : Nat → Nat) (cx : Nat → Nat) (cy : Nat → Nat) (zs : Nat → Nat) (n : Nat) (rr : Nat) (hr : rr < n) (hn : n ≤ 256) : gMi (S := Unit) l yX2_sizeOf wsX2_sizeOf { frames := 1, cells := 0, slots := 0, locals := 21 } G [.ref v, .int (nI rr)] [(v, .inr (2, [.ref h, .ref b1, .ref b2, .ref b3, .ref b4, .ref b5, .int (nI n)])), (b1, .inl (G.2.1, 256, .inl (gn ra))), (b2, .inl (G.2.1, 256, .inl (gn so))), (b3, .inl (G.2.1, 256, .inl (gn cx))), (b4, .inl (G.2.1, 256, .inl (gn cy))), (b5, .inl (G.2.1, 256, .inl (gn zs)))] (fun (r : Int32) (u : Unit) => (r = nI (zs rr))) (fun u => [(v, .inr (2, [.ref h, .ref b1, .ref b2, .ref b3, .ref b4, .ref b5, .int (nI n)])), (b1, .inl (G.2.1, 256, .inl (gn ra))), (b2, .inl (G.2.1, 256, .inl (gn so))), (b3, .inl (G.2.1, 256, .inl (gn cx))), (b4, .inl (G.2.1, 256, .inl (gn cy))), (b5, .inl (G.2.1, 256, .inl (gn zs)))]) 0 0 := by
  refine gMet_mk (cc := cX2_sizeOf) (nL := 2) (ret := (some .int)) (Qc := fun A => va_Qi (S := Unit) (fun (r : Int32) (u : Unit) => (r = nI (zs rr))) (gB G A (fun (u : Unit) => [(v, .inr (2, [.ref h, .ref b1, .ref b2, .ref b3, .ref b4, .ref b5, .int (nI n)])), (b1, .inl (G.2.1, 256, .inl (gn ra))), (b2, .inl (G.2.1, 256, .inl (gn so))), (b3, .inl (G.2.1, 256, .inl (gn cx))), (b4, .inl (G.2.1, 256, .inl (gn cy))), (b5, .inl (G.2.1, 256, .inl (gn zs)))])) A) (by decide) rfl (Nat.le_of_ble_eq_true rfl) ?_
  intro p e s m args below meth c A F ls hl hP hD hS
  have hx := F.1
  have hb := F.2.1
  have hts := F.2.2.2.2.2.2.1
  have hown : s.vm.findClass RX2 = some m.cls := F.2.2.2.2.2.1
  have hKK := F.2.2.2.2.2.2.2.2.1
  have hK := hKK.1
  have hin0 := F.2.2.2.2.2.2.2.1
  have hi2 : ∀ w ∈ u_ws RX2 TX2 7, w ∈ wsX2_sizeOf := by decide +kernel
  have hl : lv_has ls 2 [(0, .ref v), (1, .int (nI rr))] := hl
  generalize hH : s.heap = H at hP ⊢
  have hS : va_S A s.heap H [] := by rw [← hH]; exact va_S.rf
  generalize hLo : ([] : List Loc) = locs at hS ⊢
  refine lv_aload_n hx hb dX2_sizeOf_0 rfl (lv_at hl 0 rfl) ?_
  refine lv_iload_n hx hb dX2_sizeOf_1 rfl (lv_at hl 1 rfl) ?_
  refine W.eq (g2 := F0 m 2 ls [.int (zI ((rr : Nat) : Int)), .ref v]) (by simp only [zI_nat, zI_neg1]) ?_
  refine gCi F (gRunV (own := RX2) (C := RX2) (ci := 2) (bytes := cX2_isPlot) (n := 1) (As := [.int (zI ((rr : Nat) : Int))]) (rest := []) F (c_X2_isPlot l G v b1 b2 b3 b4 b5 h ra so cx cy zs n ((rr : Nat) : Int) (by first | assumption | omega) (by first | assumption | omega) H.size) gX2_sizeOf_X2_isPlot rfl rfl rfl rfl (by decide +kernel) rfl ⟨Nat.le_of_ble_eq_true rfl, Nat.le_of_ble_eq_true rfl⟩ hP hD (lit := [(v, .inr (2, [.ref h, .ref b1, .ref b2, .ref b3, .ref b4, .ref b5, .int (nI n)])), (b1, .inl (G.2.1, 256, .inl (gn ra))), (b2, .inl (G.2.1, 256, .inl (gn so))), (b3, .inl (G.2.1, 256, .inl (gn cx))), (b4, .inl (G.2.1, 256, .inl (gn cy))), (b5, .inl (G.2.1, 256, .inl (gn zs)))]) (wt := []) (wc := [(v, .inr (2, [.ref h, .ref b1, .ref b2, .ref b3, .ref b4, .ref b5, .int (nI n)])), (b1, .inl (G.2.1, 256, .inl (gn ra))), (b2, .inl (G.2.1, 256, .inl (gn so))), (b3, .inl (G.2.1, 256, .inl (gn cx))), (b4, .inl (G.2.1, 256, .inl (gn cy))), (b5, .inl (G.2.1, 256, .inl (gn zs)))]) (isC := [0, 1, 2, 3, 4, 5]) rfl (by decide) rfl rfl rfl hl.1 (Nat.le_of_ble_eq_true rfl) dX2_sizeOf_2 ⟨Nat.le_of_ble_eq_true rfl, Nat.le_of_ble_eq_true rfl⟩) hP hD hS (lit := [(v, .inr (2, [.ref h, .ref b1, .ref b2, .ref b3, .ref b4, .ref b5, .int (nI n)])), (b1, .inl (G.2.1, 256, .inl (gn ra))), (b2, .inl (G.2.1, 256, .inl (gn so))), (b3, .inl (G.2.1, 256, .inl (gn cx))), (b4, .inl (G.2.1, 256, .inl (gn cy))), (b5, .inl (G.2.1, 256, .inl (gn zs)))]) (wt := []) (wc := [(v, .inr (2, [.ref h, .ref b1, .ref b2, .ref b3, .ref b4, .ref b5, .int (nI n)])), (b1, .inl (G.2.1, 256, .inl (gn ra))), (b2, .inl (G.2.1, 256, .inl (gn so))), (b3, .inl (G.2.1, 256, .inl (gn cx))), (b4, .inl (G.2.1, 256, .inl (gn cy))), (b5, .inl (G.2.1, 256, .inl (gn zs)))]) (wr := []) (isC := [0, 1, 2, 3, 4, 5]) (isR := []) rfl rfl (by decide) (by decide) (fun r2 u H locs hp2 hP hD hS => ?_)
  subst hp2
  have hP : va_P G.1 vwCl [(v, .inr (2, [.ref h, .ref b1, .ref b2, .ref b3, .ref b4, .ref b5, .int (nI n)])), (b1, .inl (G.2.1, 256, .inl (gn ra))), (b2, .inl (G.2.1, 256, .inl (gn so))), (b3, .inl (G.2.1, 256, .inl (gn cx))), (b4, .inl (G.2.1, 256, .inl (gn cy))), (b5, .inl (G.2.1, 256, .inl (gn zs)))] H := hP
  have hD : va_D A [(v, .inr (2, [.ref h, .ref b1, .ref b2, .ref b3, .ref b4, .ref b5, .int (nI n)])), (b1, .inl (G.2.1, 256, .inl (gn ra))), (b2, .inl (G.2.1, 256, .inl (gn so))), (b3, .inl (G.2.1, 256, .inl (gn cx))), (b4, .inl (G.2.1, 256, .inl (gn cy))), (b5, .inl (G.2.1, 256, .inl (gn zs)))] := hD
  refine gIfB_eq (P := (0 ≤ ((rr : Nat) : Int) ∧ ((rr : Nat) : Int) < (n : Int))) (tgt := 17) hx hb dX2_sizeOf_5 (by decide) (fun c5 => ?_) (fun c5 => ?_)
  · skip
    exfalso; omega
  refine lv_aload_n hx hb dX2_sizeOf_8 rfl (lv_at hl 0 rfl) ?_
  refine va_get (D := G.1) (ci := 2) (v := .ref b5) (C := RX2) (T := TX2) (N := 7) hx hb hts hi2 hown hK hP 0 rfl rfl 5 (by decide) (hts (.fieldLink RX2 31 "LandQuarters$Survey" "sizes" "[I") (by decide +kernel)) (fun _ h9 => h9) rfl dX2_sizeOf_9 ?_
  refine lv_iload_n hx hb dX2_sizeOf_12 rfl (lv_at hl 1 rfl) ?_
  refine gNald (k := rr) hx hb hK hP 5 0 rfl rfl (by omega) (by first | decide | omega) dX2_sizeOf_13 ?_
  refine lv_goto (tgt := 18) hx hb dX2_sizeOf_14 (by decide) ?_
  exact gRi F dX2_sizeOf_18 (rfl) () (rfl) hP hD hS (Nat.le_refl _) (Nat.le_refl _)

set_option maxHeartbeats 4000000 in
set_option maxRecDepth 100000 in
theorem c_X2_ownerOf (l : Launch) (G : gG) (v : Nat) (b1 : Nat) (b2 : Nat) (b3 : Nat) (b4 : Nat) (b5 : Nat) (h : Nat) (ra : Nat → Nat) (so : Nat → Nat) (cx : Nat → Nat) (cy : Nat → Nat) (zs : Nat → Nat) (n : Nat) (rr : Nat) (hr : rr < n) (hn : n ≤ 256) : gMi (S := Unit) l yX2_ownerOf wsX2_ownerOf { frames := 1, cells := 0, slots := 0, locals := 21 } G [.ref v, .int (nI rr)] [(v, .inr (2, [.ref h, .ref b1, .ref b2, .ref b3, .ref b4, .ref b5, .int (nI n)])), (b1, .inl (G.2.1, 256, .inl (gn ra))), (b2, .inl (G.2.1, 256, .inl (gn so))), (b3, .inl (G.2.1, 256, .inl (gn cx))), (b4, .inl (G.2.1, 256, .inl (gn cy))), (b5, .inl (G.2.1, 256, .inl (gn zs)))] (fun (r : Int32) (u : Unit) => (r = nI (so rr))) (fun u => [(v, .inr (2, [.ref h, .ref b1, .ref b2, .ref b3, .ref b4, .ref b5, .int (nI n)])), (b1, .inl (G.2.1, 256, .inl (gn ra))), (b2, .inl (G.2.1, 256, .inl (gn so))), (b3, .inl (G.2.1, 256, .inl (gn cx))), (b4, .inl (G.2.1, 256, .inl (gn cy))), (b5, .inl (G.2.1, 256, .inl (gn zs)))]) 0 0 := by
  refine gMet_mk (cc := cX2_ownerOf) (nL := 2) (ret := (some .int)) (Qc := fun A => va_Qi (S := Unit) (fun (r : Int32) (u : Unit) => (r = nI (so rr))) (gB G A (fun (u : Unit) => [(v, .inr (2, [.ref h, .ref b1, .ref b2, .ref b3, .ref b4, .ref b5, .int (nI n)])), (b1, .inl (G.2.1, 256, .inl (gn ra))), (b2, .inl (G.2.1, 256, .inl (gn so))), (b3, .inl (G.2.1, 256, .inl (gn cx))), (b4, .inl (G.2.1, 256, .inl (gn cy))), (b5, .inl (G.2.1, 256, .inl (gn zs)))])) A) (by decide) rfl (Nat.le_of_ble_eq_true rfl) ?_
  intro p e s m args below meth c A F ls hl hP hD hS
  have hx := F.1
  have hb := F.2.1
  have hts := F.2.2.2.2.2.2.1
  have hown : s.vm.findClass RX2 = some m.cls := F.2.2.2.2.2.1
  have hKK := F.2.2.2.2.2.2.2.2.1
  have hK := hKK.1
  have hin0 := F.2.2.2.2.2.2.2.1
  have hi2 : ∀ w ∈ u_ws RX2 TX2 7, w ∈ wsX2_ownerOf := by decide +kernel
  have hl : lv_has ls 2 [(0, .ref v), (1, .int (nI rr))] := hl
  generalize hH : s.heap = H at hP ⊢
  have hS : va_S A s.heap H [] := by rw [← hH]; exact va_S.rf
  generalize hLo : ([] : List Loc) = locs at hS ⊢
  refine lv_aload_n hx hb dX2_ownerOf_0 rfl (lv_at hl 0 rfl) ?_
  refine lv_iload_n hx hb dX2_ownerOf_1 rfl (lv_at hl 1 rfl) ?_
  refine W.eq (g2 := F0 m 2 ls [.int (zI ((rr : Nat) : Int)), .ref v]) (by simp only [zI_nat, zI_neg1]) ?_
  refine gCi F (gRunV (own := RX2) (C := RX2) (ci := 2) (bytes := cX2_isPlot) (n := 1) (As := [.int (zI ((rr : Nat) : Int))]) (rest := []) F (c_X2_isPlot l G v b1 b2 b3 b4 b5 h ra so cx cy zs n ((rr : Nat) : Int) (by first | assumption | omega) (by first | assumption | omega) H.size) gX2_ownerOf_X2_isPlot rfl rfl rfl rfl (by decide +kernel) rfl ⟨Nat.le_of_ble_eq_true rfl, Nat.le_of_ble_eq_true rfl⟩ hP hD (lit := [(v, .inr (2, [.ref h, .ref b1, .ref b2, .ref b3, .ref b4, .ref b5, .int (nI n)])), (b1, .inl (G.2.1, 256, .inl (gn ra))), (b2, .inl (G.2.1, 256, .inl (gn so))), (b3, .inl (G.2.1, 256, .inl (gn cx))), (b4, .inl (G.2.1, 256, .inl (gn cy))), (b5, .inl (G.2.1, 256, .inl (gn zs)))]) (wt := []) (wc := [(v, .inr (2, [.ref h, .ref b1, .ref b2, .ref b3, .ref b4, .ref b5, .int (nI n)])), (b1, .inl (G.2.1, 256, .inl (gn ra))), (b2, .inl (G.2.1, 256, .inl (gn so))), (b3, .inl (G.2.1, 256, .inl (gn cx))), (b4, .inl (G.2.1, 256, .inl (gn cy))), (b5, .inl (G.2.1, 256, .inl (gn zs)))]) (isC := [0, 1, 2, 3, 4, 5]) rfl (by decide) rfl rfl rfl hl.1 (Nat.le_of_ble_eq_true rfl) dX2_ownerOf_2 ⟨Nat.le_of_ble_eq_true rfl, Nat.le_of_ble_eq_true rfl⟩) hP hD hS (lit := [(v, .inr (2, [.ref h, .ref b1, .ref b2, .ref b3, .ref b4, .ref b5, .int (nI n)])), (b1, .inl (G.2.1, 256, .inl (gn ra))), (b2, .inl (G.2.1, 256, .inl (gn so))), (b3, .inl (G.2.1, 256, .inl (gn cx))), (b4, .inl (G.2.1, 256, .inl (gn cy))), (b5, .inl (G.2.1, 256, .inl (gn zs)))]) (wt := []) (wc := [(v, .inr (2, [.ref h, .ref b1, .ref b2, .ref b3, .ref b4, .ref b5, .int (nI n)])), (b1, .inl (G.2.1, 256, .inl (gn ra))), (b2, .inl (G.2.1, 256, .inl (gn so))), (b3, .inl (G.2.1, 256, .inl (gn cx))), (b4, .inl (G.2.1, 256, .inl (gn cy))), (b5, .inl (G.2.1, 256, .inl (gn zs)))]) (wr := []) (isC := [0, 1, 2, 3, 4, 5]) (isR := []) rfl rfl (by decide) (by decide) (fun r2 u H locs hp2 hP hD hS => ?_)
  subst hp2
  have hP : va_P G.1 vwCl [(v, .inr (2, [.ref h, .ref b1, .ref b2, .ref b3, .ref b4, .ref b5, .int (nI n)])), (b1, .inl (G.2.1, 256, .inl (gn ra))), (b2, .inl (G.2.1, 256, .inl (gn so))), (b3, .inl (G.2.1, 256, .inl (gn cx))), (b4, .inl (G.2.1, 256, .inl (gn cy))), (b5, .inl (G.2.1, 256, .inl (gn zs)))] H := hP
  have hD : va_D A [(v, .inr (2, [.ref h, .ref b1, .ref b2, .ref b3, .ref b4, .ref b5, .int (nI n)])), (b1, .inl (G.2.1, 256, .inl (gn ra))), (b2, .inl (G.2.1, 256, .inl (gn so))), (b3, .inl (G.2.1, 256, .inl (gn cx))), (b4, .inl (G.2.1, 256, .inl (gn cy))), (b5, .inl (G.2.1, 256, .inl (gn zs)))] := hD
  refine gIfB_eq (P := (0 ≤ ((rr : Nat) : Int) ∧ ((rr : Nat) : Int) < (n : Int))) (tgt := 17) hx hb dX2_ownerOf_5 (by decide) (fun c5 => ?_) (fun c5 => ?_)
  · skip
    exfalso; omega
  refine lv_aload_n hx hb dX2_ownerOf_8 rfl (lv_at hl 0 rfl) ?_
  refine va_get (D := G.1) (ci := 2) (v := .ref b2) (C := RX2) (T := TX2) (N := 7) hx hb hts hi2 hown hK hP 0 rfl rfl 2 (by decide) (hts (.fieldLink RX2 22 "LandQuarters$Survey" "owners" "[I") (by decide +kernel)) (fun _ h9 => h9) rfl dX2_ownerOf_9 ?_
  refine lv_iload_n hx hb dX2_ownerOf_12 rfl (lv_at hl 1 rfl) ?_
  refine gNald (k := rr) hx hb hK hP 2 0 rfl rfl (by omega) (by first | decide | omega) dX2_ownerOf_13 ?_
  refine lv_goto (tgt := 18) hx hb dX2_ownerOf_14 (by decide) ?_
  exact gRi F dX2_ownerOf_18 (rfl) () (rfl) hP hD hS (Nat.le_refl _) (Nat.le_refl _)

set_option maxHeartbeats 4000000 in
set_option maxRecDepth 100000 in
theorem c_rankAt (l : Launch) (G : gG) (v : Nat) (b1 : Nat) (b2 : Nat) (b3 : Nat) (b4 : Nat) (b5 : Nat) (h : Nat) (ra : Nat → Nat) (so : Nat → Nat) (cx : Nat → Nat) (cy : Nat → Nat) (zs : Nat → Nat) (n : Nat) (x : Nat) (y : Nat) (hx : x < 16) (hy : y < 16) : gMi (S := Unit) l yX2_rankAt wsX2_rankAt { frames := 1, cells := 0, slots := 0, locals := 21 } G [.ref v, .int (nI x), .int (nI y)] [(v, .inr (2, [.ref h, .ref b1, .ref b2, .ref b3, .ref b4, .ref b5, .int (nI n)])), (b1, .inl (G.2.1, 256, .inl (gn ra))), (b2, .inl (G.2.1, 256, .inl (gn so))), (b3, .inl (G.2.1, 256, .inl (gn cx))), (b4, .inl (G.2.1, 256, .inl (gn cy))), (b5, .inl (G.2.1, 256, .inl (gn zs)))] (fun (r : Int32) (u : Unit) => (r = nI (ra (y * 16 + x)))) (fun u => [(v, .inr (2, [.ref h, .ref b1, .ref b2, .ref b3, .ref b4, .ref b5, .int (nI n)])), (b1, .inl (G.2.1, 256, .inl (gn ra))), (b2, .inl (G.2.1, 256, .inl (gn so))), (b3, .inl (G.2.1, 256, .inl (gn cx))), (b4, .inl (G.2.1, 256, .inl (gn cy))), (b5, .inl (G.2.1, 256, .inl (gn zs)))]) 0 0 := by
  refine gMet_mk (cc := cX2_rankAt) (nL := 3) (ret := (some .int)) (Qc := fun A => va_Qi (S := Unit) (fun (r : Int32) (u : Unit) => (r = nI (ra (y * 16 + x)))) (gB G A (fun (u : Unit) => [(v, .inr (2, [.ref h, .ref b1, .ref b2, .ref b3, .ref b4, .ref b5, .int (nI n)])), (b1, .inl (G.2.1, 256, .inl (gn ra))), (b2, .inl (G.2.1, 256, .inl (gn so))), (b3, .inl (G.2.1, 256, .inl (gn cx))), (b4, .inl (G.2.1, 256, .inl (gn cy))), (b5, .inl (G.2.1, 256, .inl (gn zs)))])) A) (by decide) rfl (Nat.le_of_ble_eq_true rfl) ?_
  intro p e s m args below meth c A F ls hl hP hD hS
  have hx := F.1
  have hb := F.2.1
  have hts := F.2.2.2.2.2.2.1
  have hown : s.vm.findClass RX2 = some m.cls := F.2.2.2.2.2.1
  have hKK := F.2.2.2.2.2.2.2.2.1
  have hK := hKK.1
  have hin0 := F.2.2.2.2.2.2.2.1
  have hi2 : ∀ w ∈ u_ws RX2 TX2 7, w ∈ wsX2_rankAt := by decide +kernel
  have hl : lv_has ls 3 [(0, .ref v), (1, .int (nI x)), (2, .int (nI y))] := hl
  generalize hH : s.heap = H at hP ⊢
  have hS : va_S A s.heap H [] := by rw [← hH]; exact va_S.rf
  generalize hLo : ([] : List Loc) = locs at hS ⊢
  refine lv_iload_n hx hb dX2_rankAt_0 rfl (lv_at hl 1 rfl) ?_
  refine lv_iload_n hx hb dX2_rankAt_1 rfl (lv_at hl 2 rfl) ?_
  refine W.eq (g2 := F0 m 2 ls [.int (zI ((y : Nat) : Int)), .int (zI ((x : Nat) : Int))]) (by simp only [zI_nat, zI_neg1]) ?_
  refine gCi F (gRunSN (own := RX2) (host := RX3) (bytes := cX3_isCell) (n := 2) (As := [.int (zI ((x : Nat) : Int)), .int (zI ((y : Nat) : Int))]) (rest := []) F (c_X3_isCell l G ((x : Nat) : Int) ((y : Nat) : Int) (by first | assumption | omega) (by first | assumption | omega) H.size) gX2_rankAt_X3_isCell_n72 (by decide +kernel) (by decide +kernel) (by decide +kernel) rfl rfl rfl rfl (by decide +kernel) rfl ⟨Nat.le_of_ble_eq_true rfl, Nat.le_of_ble_eq_true rfl⟩ hP hD (lit := [(v, .inr (2, [.ref h, .ref b1, .ref b2, .ref b3, .ref b4, .ref b5, .int (nI n)])), (b1, .inl (G.2.1, 256, .inl (gn ra))), (b2, .inl (G.2.1, 256, .inl (gn so))), (b3, .inl (G.2.1, 256, .inl (gn cx))), (b4, .inl (G.2.1, 256, .inl (gn cy))), (b5, .inl (G.2.1, 256, .inl (gn zs)))]) (wt := []) (wc := []) (isC := []) rfl (by decide) rfl hl.1 (Nat.le_of_ble_eq_true rfl) dX2_rankAt_2 ⟨Nat.le_of_ble_eq_true rfl, Nat.le_of_ble_eq_true rfl⟩) hP hD hS (lit := [(v, .inr (2, [.ref h, .ref b1, .ref b2, .ref b3, .ref b4, .ref b5, .int (nI n)])), (b1, .inl (G.2.1, 256, .inl (gn ra))), (b2, .inl (G.2.1, 256, .inl (gn so))), (b3, .inl (G.2.1, 256, .inl (gn cx))), (b4, .inl (G.2.1, 256, .inl (gn cy))), (b5, .inl (G.2.1, 256, .inl (gn zs)))]) (wt := []) (wc := []) (wr := [(v, .inr (2, [.ref h, .ref b1, .ref b2, .ref b3, .ref b4, .ref b5, .int (nI n)])), (b1, .inl (G.2.1, 256, .inl (gn ra))), (b2, .inl (G.2.1, 256, .inl (gn so))), (b3, .inl (G.2.1, 256, .inl (gn cx))), (b4, .inl (G.2.1, 256, .inl (gn cy))), (b5, .inl (G.2.1, 256, .inl (gn zs)))]) (isC := []) (isR := [0, 1, 2, 3, 4, 5]) rfl rfl (by decide) (by decide) (fun r2 u H locs hp2 hP hD hS => ?_)
  subst hp2
  have hP : va_P G.1 vwCl [(v, .inr (2, [.ref h, .ref b1, .ref b2, .ref b3, .ref b4, .ref b5, .int (nI n)])), (b1, .inl (G.2.1, 256, .inl (gn ra))), (b2, .inl (G.2.1, 256, .inl (gn so))), (b3, .inl (G.2.1, 256, .inl (gn cx))), (b4, .inl (G.2.1, 256, .inl (gn cy))), (b5, .inl (G.2.1, 256, .inl (gn zs)))] H := hP
  have hD : va_D A [(v, .inr (2, [.ref h, .ref b1, .ref b2, .ref b3, .ref b4, .ref b5, .int (nI n)])), (b1, .inl (G.2.1, 256, .inl (gn ra))), (b2, .inl (G.2.1, 256, .inl (gn so))), (b3, .inl (G.2.1, 256, .inl (gn cx))), (b4, .inl (G.2.1, 256, .inl (gn cy))), (b5, .inl (G.2.1, 256, .inl (gn zs)))] := hD
  refine gIfB_eq (P := (0 ≤ ((x : Nat) : Int) ∧ ((x : Nat) : Int) < 16 ∧ 0 ≤ ((y : Nat) : Int) ∧ ((y : Nat) : Int) < 16)) (tgt := 22) hx hb dX2_rankAt_5 (by decide) (fun c5 => ?_) (fun c5 => ?_)
  · skip
    exfalso; omega
  refine lv_aload_n hx hb dX2_rankAt_8 rfl (lv_at hl 0 rfl) ?_
  refine va_get (D := G.1) (ci := 2) (v := .ref b1) (C := RX2) (T := TX2) (N := 7) hx hb hts hi2 hown hK hP 0 rfl rfl 1 (by decide) (hts (.fieldLink RX2 18 "LandQuarters$Survey" "ranks" "[I") (by decide +kernel)) (fun _ h9 => h9) rfl dX2_rankAt_9 ?_
  refine lv_iload_n hx hb dX2_rankAt_12 rfl (lv_at hl 2 rfl) ?_
  refine lv_bipush (v := nI 16) hx hb dX2_rankAt_13 (by decide) ?_
  refine gImul (a := y) (b := 16) hx hb dX2_rankAt_15 ?_
  refine lv_iload_n hx hb dX2_rankAt_16 rfl (lv_at hl 1 rfl) ?_
  refine gIadd (a := y * 16) (b := x) hx hb dX2_rankAt_17 ?_
  refine gNald (k := y * 16 + x) hx hb hK hP 1 0 rfl rfl (by omega) (by first | decide | omega) dX2_rankAt_18 ?_
  refine lv_goto (tgt := 23) hx hb dX2_rankAt_19 (by decide) ?_
  exact gRi F dX2_rankAt_23 (rfl) () (rfl) hP hD hS (Nat.le_refl _) (Nat.le_refl _)

set_option maxHeartbeats 4000000 in
set_option maxRecDepth 100000 in
theorem c_X2_markCommon (l : Launch) (G : gG) (v : Nat) (b1 : Nat) (b2 : Nat) (b3 : Nat) (b4 : Nat) (b5 : Nat) (h : Nat) (ra : Nat → Nat) (so : Nat → Nat) (cx : Nat → Nat) (cy : Nat → Nat) (zs : Nat → Nat) (n : Nat) (rr : Nat) (hr : rr < n) (hn : n ≤ 256) : gMv (S := Unit) l yX2_markCommon wsX2_markCommon { frames := 1, cells := 0, slots := 0, locals := 21 } G [.ref v, .int (nI rr)] [(v, .inr (2, [.ref h, .ref b1, .ref b2, .ref b3, .ref b4, .ref b5, .int (nI n)])), (b1, .inl (G.2.1, 256, .inl (gn ra))), (b2, .inl (G.2.1, 256, .inl (gn so))), (b3, .inl (G.2.1, 256, .inl (gn cx))), (b4, .inl (G.2.1, 256, .inl (gn cy))), (b5, .inl (G.2.1, 256, .inl (gn zs)))] (fun (u : Unit) => True) (fun u => [(v, .inr (2, [.ref h, .ref b1, .ref b2, .ref b3, .ref b4, .ref b5, .int (nI n)])), (b1, .inl (G.2.1, 256, .inl (gn ra))), (b2, .inl (G.2.1, 256, .inl (gn (va_up so rr 0)))), (b3, .inl (G.2.1, 256, .inl (gn cx))), (b4, .inl (G.2.1, 256, .inl (gn cy))), (b5, .inl (G.2.1, 256, .inl (gn zs)))]) 0 0 := by
  refine gMet_mk (cc := cX2_markCommon) (nL := 2) (ret := none) (Qc := fun A => va_Qv (S := Unit) (fun (u : Unit) => True) (gB G A (fun (u : Unit) => [(v, .inr (2, [.ref h, .ref b1, .ref b2, .ref b3, .ref b4, .ref b5, .int (nI n)])), (b1, .inl (G.2.1, 256, .inl (gn ra))), (b2, .inl (G.2.1, 256, .inl (gn (va_up so rr 0)))), (b3, .inl (G.2.1, 256, .inl (gn cx))), (b4, .inl (G.2.1, 256, .inl (gn cy))), (b5, .inl (G.2.1, 256, .inl (gn zs)))])) A) (by decide) rfl (Nat.le_of_ble_eq_true rfl) ?_
  intro p e s m args below meth c A F ls hl hP hD hS
  have hx := F.1
  have hb := F.2.1
  have hts := F.2.2.2.2.2.2.1
  have hown : s.vm.findClass RX2 = some m.cls := F.2.2.2.2.2.1
  have hKK := F.2.2.2.2.2.2.2.2.1
  have hK := hKK.1
  have hin0 := F.2.2.2.2.2.2.2.1
  have hi2 : ∀ w ∈ u_ws RX2 TX2 7, w ∈ wsX2_markCommon := by decide +kernel
  have hl : lv_has ls 2 [(0, .ref v), (1, .int (nI rr))] := hl
  generalize hH : s.heap = H at hP ⊢
  have hS : va_S A s.heap H [] := by rw [← hH]; exact va_S.rf
  generalize hLo : ([] : List Loc) = locs at hS ⊢
  refine lv_aload_n hx hb dX2_markCommon_0 rfl (lv_at hl 0 rfl) ?_
  refine lv_iload_n hx hb dX2_markCommon_1 rfl (lv_at hl 1 rfl) ?_
  refine W.eq (g2 := F0 m 2 ls [.int (zI ((rr : Nat) : Int)), .ref v]) (by simp only [zI_nat, zI_neg1]) ?_
  refine gCi F (gRunV (own := RX2) (C := RX2) (ci := 2) (bytes := cX2_isPlot) (n := 1) (As := [.int (zI ((rr : Nat) : Int))]) (rest := []) F (c_X2_isPlot l G v b1 b2 b3 b4 b5 h ra so cx cy zs n ((rr : Nat) : Int) (by first | assumption | omega) (by first | assumption | omega) H.size) gX2_markCommon_X2_isPlot rfl rfl rfl rfl (by decide +kernel) rfl ⟨Nat.le_of_ble_eq_true rfl, Nat.le_of_ble_eq_true rfl⟩ hP hD (lit := [(v, .inr (2, [.ref h, .ref b1, .ref b2, .ref b3, .ref b4, .ref b5, .int (nI n)])), (b1, .inl (G.2.1, 256, .inl (gn ra))), (b2, .inl (G.2.1, 256, .inl (gn so))), (b3, .inl (G.2.1, 256, .inl (gn cx))), (b4, .inl (G.2.1, 256, .inl (gn cy))), (b5, .inl (G.2.1, 256, .inl (gn zs)))]) (wt := []) (wc := [(v, .inr (2, [.ref h, .ref b1, .ref b2, .ref b3, .ref b4, .ref b5, .int (nI n)])), (b1, .inl (G.2.1, 256, .inl (gn ra))), (b2, .inl (G.2.1, 256, .inl (gn so))), (b3, .inl (G.2.1, 256, .inl (gn cx))), (b4, .inl (G.2.1, 256, .inl (gn cy))), (b5, .inl (G.2.1, 256, .inl (gn zs)))]) (isC := [0, 1, 2, 3, 4, 5]) rfl (by decide) rfl rfl rfl hl.1 (Nat.le_of_ble_eq_true rfl) dX2_markCommon_2 ⟨Nat.le_of_ble_eq_true rfl, Nat.le_of_ble_eq_true rfl⟩) hP hD hS (lit := [(v, .inr (2, [.ref h, .ref b1, .ref b2, .ref b3, .ref b4, .ref b5, .int (nI n)])), (b1, .inl (G.2.1, 256, .inl (gn ra))), (b2, .inl (G.2.1, 256, .inl (gn so))), (b3, .inl (G.2.1, 256, .inl (gn cx))), (b4, .inl (G.2.1, 256, .inl (gn cy))), (b5, .inl (G.2.1, 256, .inl (gn zs)))]) (wt := []) (wc := [(v, .inr (2, [.ref h, .ref b1, .ref b2, .ref b3, .ref b4, .ref b5, .int (nI n)])), (b1, .inl (G.2.1, 256, .inl (gn ra))), (b2, .inl (G.2.1, 256, .inl (gn so))), (b3, .inl (G.2.1, 256, .inl (gn cx))), (b4, .inl (G.2.1, 256, .inl (gn cy))), (b5, .inl (G.2.1, 256, .inl (gn zs)))]) (wr := []) (isC := [0, 1, 2, 3, 4, 5]) (isR := []) rfl rfl (by decide) (by decide) (fun r2 u H locs hp2 hP hD hS => ?_)
  subst hp2
  have hP : va_P G.1 vwCl [(v, .inr (2, [.ref h, .ref b1, .ref b2, .ref b3, .ref b4, .ref b5, .int (nI n)])), (b1, .inl (G.2.1, 256, .inl (gn ra))), (b2, .inl (G.2.1, 256, .inl (gn so))), (b3, .inl (G.2.1, 256, .inl (gn cx))), (b4, .inl (G.2.1, 256, .inl (gn cy))), (b5, .inl (G.2.1, 256, .inl (gn zs)))] H := hP
  have hD : va_D A [(v, .inr (2, [.ref h, .ref b1, .ref b2, .ref b3, .ref b4, .ref b5, .int (nI n)])), (b1, .inl (G.2.1, 256, .inl (gn ra))), (b2, .inl (G.2.1, 256, .inl (gn so))), (b3, .inl (G.2.1, 256, .inl (gn cx))), (b4, .inl (G.2.1, 256, .inl (gn cy))), (b5, .inl (G.2.1, 256, .inl (gn zs)))] := hD
  refine gIfB_eq (P := (0 ≤ ((rr : Nat) : Int) ∧ ((rr : Nat) : Int) < (n : Int))) (tgt := 15) hx hb dX2_markCommon_5 (by decide) (fun c5 => ?_) (fun c5 => ?_)
  · skip
    exfalso; omega
  refine lv_aload_n hx hb dX2_markCommon_8 rfl (lv_at hl 0 rfl) ?_
  refine va_get (D := G.1) (ci := 2) (v := .ref b2) (C := RX2) (T := TX2) (N := 7) hx hb hts hi2 hown hK hP 0 rfl rfl 2 (by decide) (hts (.fieldLink RX2 22 "LandQuarters$Survey" "owners" "[I") (by decide +kernel)) (fun _ h9 => h9) rfl dX2_markCommon_9 ?_
  refine lv_iload_n hx hb dX2_markCommon_12 rfl (lv_at hl 1 rfl) ?_
  refine lv_iconst (v := nI 0) hx hb dX2_markCommon_13 (by decide) ?_
  refine gNast (k := rr) (v := 0) hx hb hK hP hD hS 2 0 rfl rfl (by omega) (by first | decide | omega) dX2_markCommon_14 (fun H locs hP hD hS => ?_)
  have hP : va_P G.1 vwCl [(v, .inr (2, [.ref h, .ref b1, .ref b2, .ref b3, .ref b4, .ref b5, .int (nI n)])), (b1, .inl (G.2.1, 256, .inl (gn ra))), (b2, .inl (G.2.1, 256, .inl (gn (va_up so rr 0)))), (b3, .inl (G.2.1, 256, .inl (gn cx))), (b4, .inl (G.2.1, 256, .inl (gn cy))), (b5, .inl (G.2.1, 256, .inl (gn zs)))] H := hP
  have hD : va_D A [(v, .inr (2, [.ref h, .ref b1, .ref b2, .ref b3, .ref b4, .ref b5, .int (nI n)])), (b1, .inl (G.2.1, 256, .inl (gn ra))), (b2, .inl (G.2.1, 256, .inl (gn (va_up so rr 0)))), (b3, .inl (G.2.1, 256, .inl (gn cx))), (b4, .inl (G.2.1, 256, .inl (gn cy))), (b5, .inl (G.2.1, 256, .inl (gn zs)))] := hD
  exact gRv F dX2_markCommon_15 () (trivial) hP hD hS (Nat.le_refl _) (Nat.le_refl _)

set_option maxHeartbeats 4000000 in
set_option maxRecDepth 100000 in
theorem c_X2_countOf (l : Launch) (G : gG) (v : Nat) (b1 : Nat) (b2 : Nat) (b3 : Nat) (b4 : Nat) (b5 : Nat) (h : Nat) (ra : Nat → Nat) (so : Nat → Nat) (cx : Nat → Nat) (cy : Nat → Nat) (zs : Nat → Nat) (n : Nat) (o : Nat) (hn : n ≤ 256) (hso : ∀ k, k < n → so k < 8) (ho : o < 8) : gMi (S := Unit) l yX2_countOf wsX2_countOf { frames := 0, cells := 0, slots := 0, locals := 0 } G [.ref v, .int (nI o)] [(v, .inr (2, [.ref h, .ref b1, .ref b2, .ref b3, .ref b4, .ref b5, .int (nI n)])), (b1, .inl (G.2.1, 256, .inl (gn ra))), (b2, .inl (G.2.1, 256, .inl (gn so))), (b3, .inl (G.2.1, 256, .inl (gn cx))), (b4, .inl (G.2.1, 256, .inl (gn cy))), (b5, .inl (G.2.1, 256, .inl (gn zs)))] (fun (r : Int32) (u : Unit) => (r = nI (sCnt so o n))) (fun u => [(v, .inr (2, [.ref h, .ref b1, .ref b2, .ref b3, .ref b4, .ref b5, .int (nI n)])), (b1, .inl (G.2.1, 256, .inl (gn ra))), (b2, .inl (G.2.1, 256, .inl (gn so))), (b3, .inl (G.2.1, 256, .inl (gn cx))), (b4, .inl (G.2.1, 256, .inl (gn cy))), (b5, .inl (G.2.1, 256, .inl (gn zs)))]) 0 0 := by
  refine gMet_mk (cc := cX2_countOf) (nL := 4) (ret := (some .int)) (Qc := fun A => va_Qi (S := Unit) (fun (r : Int32) (u : Unit) => (r = nI (sCnt so o n))) (gB G A (fun (u : Unit) => [(v, .inr (2, [.ref h, .ref b1, .ref b2, .ref b3, .ref b4, .ref b5, .int (nI n)])), (b1, .inl (G.2.1, 256, .inl (gn ra))), (b2, .inl (G.2.1, 256, .inl (gn so))), (b3, .inl (G.2.1, 256, .inl (gn cx))), (b4, .inl (G.2.1, 256, .inl (gn cy))), (b5, .inl (G.2.1, 256, .inl (gn zs)))])) A) (by decide) rfl (Nat.le_of_ble_eq_true rfl) ?_
  intro p e s m args below meth c A F ls hl hP hD hS
  have hx := F.1
  have hb := F.2.1
  have hts := F.2.2.2.2.2.2.1
  have hown : s.vm.findClass RX2 = some m.cls := F.2.2.2.2.2.1
  have hKK := F.2.2.2.2.2.2.2.2.1
  have hK := hKK.1
  have hin0 := F.2.2.2.2.2.2.2.1
  have hi2 : ∀ w ∈ u_ws RX2 TX2 7, w ∈ wsX2_countOf := by decide +kernel
  have hl : lv_has ls 4 [(0, .ref v), (1, .int (nI o))] := hl
  generalize hH : s.heap = H at hP ⊢
  have hS : va_S A s.heap H [] := by rw [← hH]; exact va_S.rf
  generalize hLo : ([] : List Loc) = locs at hS ⊢
  refine lv_iconst (v := nI 0) hx hb dX2_countOf_0 (by decide) ?_
  refine lv_istore_n (lv' := [(2, .int (nI 0)), (0, .ref v), (1, .int (nI o))]) hx hb dX2_countOf_1 rfl hl (by decide) rfl (fun ls hl => ?_)
  refine lv_iconst (v := nI 0) hx hb dX2_countOf_2 (by decide) ?_
  refine lv_istore_n (lv' := [(3, .int (nI 0)), (2, .int (nI 0)), (0, .ref v), (1, .int (nI o))]) hx hb dX2_countOf_3 rfl hl (by decide) rfl (fun ls hl => ?_)
  have L4 : ∀ (fuel : Nat) (k : Nat), n - k < fuel → (k ≤ n) → ∀ (H : Heap) (locs : List Loc), va_P G.1 vwCl [(v, .inr (2, [.ref h, .ref b1, .ref b2, .ref b3, .ref b4, .ref b5, .int (nI n)])), (b1, .inl (G.2.1, 256, .inl (gn ra))), (b2, .inl (G.2.1, 256, .inl (gn so))), (b3, .inl (G.2.1, 256, .inl (gn cx))), (b4, .inl (G.2.1, 256, .inl (gn cy))), (b5, .inl (G.2.1, 256, .inl (gn zs)))] H → va_D A [(v, .inr (2, [.ref h, .ref b1, .ref b2, .ref b3, .ref b4, .ref b5, .int (nI n)])), (b1, .inl (G.2.1, 256, .inl (gn ra))), (b2, .inl (G.2.1, 256, .inl (gn so))), (b3, .inl (G.2.1, 256, .inl (gn cx))), (b4, .inl (G.2.1, 256, .inl (gn cy))), (b5, .inl (G.2.1, 256, .inl (gn zs)))] → va_S A s.heap H locs → ∀ (ls : Array Slot), lv_has ls 4 [(3, .int (nI k)), (2, .int (nI (sCnt so o k))), (0, .ref v), (1, .int (nI o))] → W p l e ({ frames := 0, cells := 0, slots := 0, locals := 0 } : Room) s m args below meth c H locs 0 0 (MQ below (va_Qi (S := Unit) (fun (r : Int32) (u : Unit) => (r = nI (sCnt so o n))) (gB G A (fun (u : Unit) => [(v, .inr (2, [.ref h, .ref b1, .ref b2, .ref b3, .ref b4, .ref b5, .int (nI n)])), (b1, .inl (G.2.1, 256, .inl (gn ra))), (b2, .inl (G.2.1, 256, .inl (gn so))), (b3, .inl (G.2.1, 256, .inl (gn cx))), (b4, .inl (G.2.1, 256, .inl (gn cy))), (b5, .inl (G.2.1, 256, .inl (gn zs)))])) A) args s 0 0 A) (F0 m 4 ls []) := by
    intro fuel
    induction fuel with
    | zero => intro k hme; exact absurd hme (Nat.not_lt_zero _)
    | succ fuel ih4 =>
      intro k hme hk H locs hP hD hS ls hl
      refine lv_iload_n hx hb dX2_countOf_4 rfl (lv_at hl 0 rfl) ?_
      refine lv_aload_n hx hb dX2_countOf_5 rfl (lv_at hl 2 rfl) ?_
      refine va_get (D := G.1) (ci := 2) (v := .int (nI n)) (C := RX2) (T := TX2) (N := 7) hx hb hts hi2 hown hK hP 0 rfl rfl 6 (by decide) (hts (.fieldLink RX2 34 "LandQuarters$Survey" "plotCount" "I") (by decide +kernel)) (fun _ h9 => h9) rfl dX2_countOf_6 ?_
      refine gIcmp_ge (a := k) (b := n) (tgt := 38) hx hb dX2_countOf_9 (by decide) (by omega) (by omega) (fun c9 => ?_) (fun c9 => ?_)
      · skip
        refine lv_iload_n hx hb dX2_countOf_38 rfl (lv_at hl 1 rfl) ?_
        exact gRi F dX2_countOf_39 (rfl) () (by rw [show k = n by omega]) hP hD hS (Nat.le_refl _) (Nat.le_refl _)
      refine lv_iload_n hx hb dX2_countOf_12 rfl (lv_at hl 0 rfl) ?_
      refine lv_sipush (v := nI 256) hx hb dX2_countOf_13 (by decide) ?_
      refine gIcmp_ge (a := k) (b := 256) (tgt := 38) hx hb dX2_countOf_16 (by decide) (by omega) (by omega) (fun c16 => ?_) (fun c16 => ?_)
      · skip
        exfalso; omega
      refine lv_aload_n hx hb dX2_countOf_19 rfl (lv_at hl 2 rfl) ?_
      refine va_get (D := G.1) (ci := 2) (v := .ref b2) (C := RX2) (T := TX2) (N := 7) hx hb hts hi2 hown hK hP 0 rfl rfl 2 (by decide) (hts (.fieldLink RX2 22 "LandQuarters$Survey" "owners" "[I") (by decide +kernel)) (fun _ h9 => h9) rfl dX2_countOf_20 ?_
      refine lv_iload_n hx hb dX2_countOf_23 rfl (lv_at hl 0 rfl) ?_
      refine gNald (k := k) hx hb hK hP 2 0 rfl rfl (by omega) (by first | decide | omega) dX2_countOf_24 ?_
      refine lv_iload_n hx hb dX2_countOf_25 rfl (lv_at hl 3 rfl) ?_
      refine gIcmp_ne (a := so k) (b := o) (tgt := 32) hx hb dX2_countOf_26 (by decide) (by have := hso k (by omega); omega) (by omega) (fun c26 => ?_) (fun c26 => ?_)
      · skip
        refine lv_iinc (v := nI (k + 1)) (lv' := [(3, .int (nI (k + 1))), (2, .int (nI (sCnt so o k))), (0, .ref v), (1, .int (nI o))]) hx hb dX2_countOf_32 hl (k := 0) rfl (gInc_p _ rfl) (by decide) rfl (fun ls hl => ?_)
        refine lv_goto (tgt := 4) hx hb dX2_countOf_35 (by decide) ?_
        have hl : lv_has ls 4 [(3, .int (nI (k + 1))), (2, .int (nI (sCnt so o k))), (0, .ref v), (1, .int (nI o))] := lv_sub hl [0, 1, 2, 3] rfl
        have hle : (.int (nI (sCnt so o k)) : Value) = .int (nI (sCnt so o (k + 1))) := by first | rfl | (congr 2; (try simp only [sCnt]); (repeat' split) <;> omega)
        rw [hle] at hl
        have hy_1 : (k + 1) ≤ n := by omega
        exact ih4 (k + 1) (by omega) hy_1 H locs hP hD hS ls hl
      refine lv_iinc (v := nI (sCnt so o k + 1)) (lv' := [(2, .int (nI (sCnt so o k + 1))), (3, .int (nI k)), (0, .ref v), (1, .int (nI o))]) hx hb dX2_countOf_29 hl (k := 1) rfl (gInc_p _ rfl) (by decide) rfl (fun ls hl => ?_)
      refine lv_iinc (v := nI (k + 1)) (lv' := [(3, .int (nI (k + 1))), (2, .int (nI (sCnt so o k + 1))), (0, .ref v), (1, .int (nI o))]) hx hb dX2_countOf_32 hl (k := 1) rfl (gInc_p _ rfl) (by decide) rfl (fun ls hl => ?_)
      refine lv_goto (tgt := 4) hx hb dX2_countOf_35 (by decide) ?_
      have hl : lv_has ls 4 [(3, .int (nI (k + 1))), (2, .int (nI (sCnt so o k + 1))), (0, .ref v), (1, .int (nI o))] := lv_sub hl [0, 1, 2, 3] rfl
      have hle : (.int (nI (sCnt so o k + 1)) : Value) = .int (nI (sCnt so o (k + 1))) := by first | rfl | (congr 2; (try simp only [sCnt]); (repeat' split) <;> omega)
      rw [hle] at hl
      have hy_2 : (k + 1) ≤ n := by omega
      exact ih4 (k + 1) (by omega) hy_2 H locs hP hD hS ls hl
  have hl : lv_has ls 4 [(3, .int (nI 0)), (2, .int (nI 0)), (0, .ref v), (1, .int (nI o))] := lv_sub hl [0, 1, 2, 3] rfl
  have hle : (.int (nI 0) : Value) = .int (nI (sCnt so o 0)) := by first | rfl | (congr 2; (try simp only [sCnt]); (repeat' split) <;> omega)
  rw [hle] at hl
  have hy_3 : 0 ≤ n := by omega
  exact L4 _ 0 (Nat.lt_succ_self _) hy_3 H locs hP hD hS ls hl

set_option maxHeartbeats 4000000 in
set_option maxRecDepth 100000 in
theorem c_X2_areaOf (l : Launch) (G : gG) (v : Nat) (b1 : Nat) (b2 : Nat) (b3 : Nat) (b4 : Nat) (b5 : Nat) (h : Nat) (ra : Nat → Nat) (so : Nat → Nat) (cx : Nat → Nat) (cy : Nat → Nat) (zs : Nat → Nat) (n : Nat) (o : Nat) (hn : n ≤ 256) (hso : ∀ k, k < n → so k < 8) (ho : o < 8) : gMi (S := Unit) l yX2_areaOf wsX2_areaOf { frames := 0, cells := 0, slots := 0, locals := 0 } G [.ref v, .int (nI o)] [(v, .inr (2, [.ref h, .ref b1, .ref b2, .ref b3, .ref b4, .ref b5, .int (nI n)])), (b1, .inl (G.2.1, 256, .inl (gn ra))), (b2, .inl (G.2.1, 256, .inl (gn so))), (b3, .inl (G.2.1, 256, .inl (gn cx))), (b4, .inl (G.2.1, 256, .inl (gn cy))), (b5, .inl (G.2.1, 256, .inl (gn zs)))] (fun (r : Int32) (u : Unit) => (r = nI (sAr so zs o n))) (fun u => [(v, .inr (2, [.ref h, .ref b1, .ref b2, .ref b3, .ref b4, .ref b5, .int (nI n)])), (b1, .inl (G.2.1, 256, .inl (gn ra))), (b2, .inl (G.2.1, 256, .inl (gn so))), (b3, .inl (G.2.1, 256, .inl (gn cx))), (b4, .inl (G.2.1, 256, .inl (gn cy))), (b5, .inl (G.2.1, 256, .inl (gn zs)))]) 0 0 := by
  refine gMet_mk (cc := cX2_areaOf) (nL := 4) (ret := (some .int)) (Qc := fun A => va_Qi (S := Unit) (fun (r : Int32) (u : Unit) => (r = nI (sAr so zs o n))) (gB G A (fun (u : Unit) => [(v, .inr (2, [.ref h, .ref b1, .ref b2, .ref b3, .ref b4, .ref b5, .int (nI n)])), (b1, .inl (G.2.1, 256, .inl (gn ra))), (b2, .inl (G.2.1, 256, .inl (gn so))), (b3, .inl (G.2.1, 256, .inl (gn cx))), (b4, .inl (G.2.1, 256, .inl (gn cy))), (b5, .inl (G.2.1, 256, .inl (gn zs)))])) A) (by decide) rfl (Nat.le_of_ble_eq_true rfl) ?_
  intro p e s m args below meth c A F ls hl hP hD hS
  have hx := F.1
  have hb := F.2.1
  have hts := F.2.2.2.2.2.2.1
  have hown : s.vm.findClass RX2 = some m.cls := F.2.2.2.2.2.1
  have hKK := F.2.2.2.2.2.2.2.2.1
  have hK := hKK.1
  have hin0 := F.2.2.2.2.2.2.2.1
  have hi2 : ∀ w ∈ u_ws RX2 TX2 7, w ∈ wsX2_areaOf := by decide +kernel
  have hl : lv_has ls 4 [(0, .ref v), (1, .int (nI o))] := hl
  generalize hH : s.heap = H at hP ⊢
  have hS : va_S A s.heap H [] := by rw [← hH]; exact va_S.rf
  generalize hLo : ([] : List Loc) = locs at hS ⊢
  refine lv_iconst (v := nI 0) hx hb dX2_areaOf_0 (by decide) ?_
  refine lv_istore_n (lv' := [(2, .int (nI 0)), (0, .ref v), (1, .int (nI o))]) hx hb dX2_areaOf_1 rfl hl (by decide) rfl (fun ls hl => ?_)
  refine lv_iconst (v := nI 0) hx hb dX2_areaOf_2 (by decide) ?_
  refine lv_istore_n (lv' := [(3, .int (nI 0)), (2, .int (nI 0)), (0, .ref v), (1, .int (nI o))]) hx hb dX2_areaOf_3 rfl hl (by decide) rfl (fun ls hl => ?_)
  have L4 : ∀ (fuel : Nat) (k : Nat), n - k < fuel → (k ≤ n) → ∀ (H : Heap) (locs : List Loc), va_P G.1 vwCl [(v, .inr (2, [.ref h, .ref b1, .ref b2, .ref b3, .ref b4, .ref b5, .int (nI n)])), (b1, .inl (G.2.1, 256, .inl (gn ra))), (b2, .inl (G.2.1, 256, .inl (gn so))), (b3, .inl (G.2.1, 256, .inl (gn cx))), (b4, .inl (G.2.1, 256, .inl (gn cy))), (b5, .inl (G.2.1, 256, .inl (gn zs)))] H → va_D A [(v, .inr (2, [.ref h, .ref b1, .ref b2, .ref b3, .ref b4, .ref b5, .int (nI n)])), (b1, .inl (G.2.1, 256, .inl (gn ra))), (b2, .inl (G.2.1, 256, .inl (gn so))), (b3, .inl (G.2.1, 256, .inl (gn cx))), (b4, .inl (G.2.1, 256, .inl (gn cy))), (b5, .inl (G.2.1, 256, .inl (gn zs)))] → va_S A s.heap H locs → ∀ (ls : Array Slot), lv_has ls 4 [(3, .int (nI k)), (2, .int (nI (sAr so zs o k))), (0, .ref v), (1, .int (nI o))] → W p l e ({ frames := 0, cells := 0, slots := 0, locals := 0 } : Room) s m args below meth c H locs 0 0 (MQ below (va_Qi (S := Unit) (fun (r : Int32) (u : Unit) => (r = nI (sAr so zs o n))) (gB G A (fun (u : Unit) => [(v, .inr (2, [.ref h, .ref b1, .ref b2, .ref b3, .ref b4, .ref b5, .int (nI n)])), (b1, .inl (G.2.1, 256, .inl (gn ra))), (b2, .inl (G.2.1, 256, .inl (gn so))), (b3, .inl (G.2.1, 256, .inl (gn cx))), (b4, .inl (G.2.1, 256, .inl (gn cy))), (b5, .inl (G.2.1, 256, .inl (gn zs)))])) A) args s 0 0 A) (F0 m 4 ls []) := by
    intro fuel
    induction fuel with
    | zero => intro k hme; exact absurd hme (Nat.not_lt_zero _)
    | succ fuel ih4 =>
      intro k hme hk H locs hP hD hS ls hl
      refine lv_iload_n hx hb dX2_areaOf_4 rfl (lv_at hl 0 rfl) ?_
      refine lv_aload_n hx hb dX2_areaOf_5 rfl (lv_at hl 2 rfl) ?_
      refine va_get (D := G.1) (ci := 2) (v := .int (nI n)) (C := RX2) (T := TX2) (N := 7) hx hb hts hi2 hown hK hP 0 rfl rfl 6 (by decide) (hts (.fieldLink RX2 34 "LandQuarters$Survey" "plotCount" "I") (by decide +kernel)) (fun _ h9 => h9) rfl dX2_areaOf_6 ?_
      refine gIcmp_ge (a := k) (b := n) (tgt := 51) hx hb dX2_areaOf_9 (by decide) (by omega) (by omega) (fun c9 => ?_) (fun c9 => ?_)
      · skip
        refine lv_iload_n hx hb dX2_areaOf_51 rfl (lv_at hl 1 rfl) ?_
        exact gRi F dX2_areaOf_52 (rfl) () (by rw [show k = n by omega]) hP hD hS (Nat.le_refl _) (Nat.le_refl _)
      refine lv_iload_n hx hb dX2_areaOf_12 rfl (lv_at hl 0 rfl) ?_
      refine lv_sipush (v := nI 256) hx hb dX2_areaOf_13 (by decide) ?_
      refine gIcmp_ge (a := k) (b := 256) (tgt := 51) hx hb dX2_areaOf_16 (by decide) (by omega) (by omega) (fun c16 => ?_) (fun c16 => ?_)
      · skip
        exfalso; omega
      refine lv_aload_n hx hb dX2_areaOf_19 rfl (lv_at hl 2 rfl) ?_
      refine va_get (D := G.1) (ci := 2) (v := .ref b2) (C := RX2) (T := TX2) (N := 7) hx hb hts hi2 hown hK hP 0 rfl rfl 2 (by decide) (hts (.fieldLink RX2 22 "LandQuarters$Survey" "owners" "[I") (by decide +kernel)) (fun _ h9 => h9) rfl dX2_areaOf_20 ?_
      refine lv_iload_n hx hb dX2_areaOf_23 rfl (lv_at hl 0 rfl) ?_
      refine gNald (k := k) hx hb hK hP 2 0 rfl rfl (by omega) (by first | decide | omega) dX2_areaOf_24 ?_
      refine lv_iload_n hx hb dX2_areaOf_25 rfl (lv_at hl 3 rfl) ?_
      refine gIcmp_ne (a := so k) (b := o) (tgt := 45) hx hb dX2_areaOf_26 (by decide) (by have := hso k (by omega); omega) (by omega) (fun c26 => ?_) (fun c26 => ?_)
      · skip
        refine lv_iinc (v := nI (k + 1)) (lv' := [(3, .int (nI (k + 1))), (2, .int (nI (sAr so zs o k))), (0, .ref v), (1, .int (nI o))]) hx hb dX2_areaOf_45 hl (k := 0) rfl (gInc_p _ rfl) (by decide) rfl (fun ls hl => ?_)
        refine lv_goto (tgt := 4) hx hb dX2_areaOf_48 (by decide) ?_
        have hl : lv_has ls 4 [(3, .int (nI (k + 1))), (2, .int (nI (sAr so zs o k))), (0, .ref v), (1, .int (nI o))] := lv_sub hl [0, 1, 2, 3] rfl
        have hle : (.int (nI (sAr so zs o k)) : Value) = .int (nI (sAr so zs o (k + 1))) := by congr 2; simp only [sAr]; first | rw [if_pos c26] | (rw [if_neg c26]; rfl)
        rw [hle] at hl
        have hy_1 : (k + 1) ≤ n := by omega
        exact ih4 (k + 1) (by omega) hy_1 H locs hP hD hS ls hl
      refine lv_iload_n hx hb dX2_areaOf_29 rfl (lv_at hl 1 rfl) ?_
      refine lv_aload_n hx hb dX2_areaOf_30 rfl (lv_at hl 2 rfl) ?_
      refine va_get (D := G.1) (ci := 2) (v := .ref b5) (C := RX2) (T := TX2) (N := 7) hx hb hts hi2 hown hK hP 0 rfl rfl 5 (by decide) (hts (.fieldLink RX2 31 "LandQuarters$Survey" "sizes" "[I") (by decide +kernel)) (fun _ h9 => h9) rfl dX2_areaOf_31 ?_
      refine lv_iload_n hx hb dX2_areaOf_34 rfl (lv_at hl 0 rfl) ?_
      refine gNald (k := k) hx hb hK hP 5 0 rfl rfl (by omega) (by first | decide | omega) dX2_areaOf_35 ?_
      refine lv_aload_n hx hb dX2_areaOf_36 rfl (lv_at hl 2 rfl) ?_
      refine va_get (D := G.1) (ci := 2) (v := .ref b5) (C := RX2) (T := TX2) (N := 7) hx hb hts hi2 hown hK hP 0 rfl rfl 5 (by decide) (hts (.fieldLink RX2 31 "LandQuarters$Survey" "sizes" "[I") (by decide +kernel)) (fun _ h9 => h9) rfl dX2_areaOf_37 ?_
      refine lv_iload_n hx hb dX2_areaOf_40 rfl (lv_at hl 0 rfl) ?_
      refine gNald (k := k) hx hb hK hP 5 0 rfl rfl (by omega) (by first | decide | omega) dX2_areaOf_41 ?_
      refine gImul (a := zs k) (b := zs k) hx hb dX2_areaOf_42 ?_
      refine gIadd (a := sAr so zs o k) (b := (zs k) * (zs k)) hx hb dX2_areaOf_43 ?_
      refine lv_istore_n (lv' := [(2, .int (nI (sAr so zs o k + ((zs k) * (zs k))))), (3, .int (nI k)), (0, .ref v), (1, .int (nI o))]) hx hb dX2_areaOf_44 rfl hl (by decide) rfl (fun ls hl => ?_)
      refine lv_iinc (v := nI (k + 1)) (lv' := [(3, .int (nI (k + 1))), (2, .int (nI (sAr so zs o k + ((zs k) * (zs k))))), (0, .ref v), (1, .int (nI o))]) hx hb dX2_areaOf_45 hl (k := 1) rfl (gInc_p _ rfl) (by decide) rfl (fun ls hl => ?_)
      refine lv_goto (tgt := 4) hx hb dX2_areaOf_48 (by decide) ?_
      have hl : lv_has ls 4 [(3, .int (nI (k + 1))), (2, .int (nI (sAr so zs o k + ((zs k) * (zs k))))), (0, .ref v), (1, .int (nI o))] := lv_sub hl [0, 1, 2, 3] rfl
      have hle : (.int (nI (sAr so zs o k + ((zs k) * (zs k)))) : Value) = .int (nI (sAr so zs o (k + 1))) := by congr 2; simp only [sAr]; first | rw [if_pos c26] | (rw [if_neg c26]; rfl)
      rw [hle] at hl
      have hy_2 : (k + 1) ≤ n := by omega
      exact ih4 (k + 1) (by omega) hy_2 H locs hP hD hS ls hl
  have hl : lv_has ls 4 [(3, .int (nI 0)), (2, .int (nI 0)), (0, .ref v), (1, .int (nI o))] := lv_sub hl [0, 1, 2, 3] rfl
  have hle : (.int (nI 0) : Value) = .int (nI (sAr so zs o 0)) := by rfl
  rw [hle] at hl
  have hy_3 : 0 ≤ n := by omega
  exact L4 _ 0 (Nat.lt_succ_self _) hy_3 H locs hP hD hS ls hl

set_option maxHeartbeats 4000000 in
set_option maxRecDepth 100000 in
theorem c_X2_fenceTowards (l : Launch) (G : gG) (v : Nat) (b1 : Nat) (b2 : Nat) (b3 : Nat) (b4 : Nat) (b5 : Nat) (h : Nat) (a1 : Nat) (a2 : Nat) (a3 : Nat) (ow : Nat → Nat) (he : Nat → Nat) (co : Nat → Nat) (pr : Nat) (tx : Nat) (sa : Nat) (fl : Nat) (lo : Nat) (ra : Nat → Nat) (so : Nat → Nat) (cx : Nat → Nat) (cy : Nat → Nat) (zs : Nat → Nat) (n : Nat) (x : Int) (y : Int) (o : Nat) (hw : ∀ k, ow k < 8) (hx : -2147483648 ≤ x ∧ x < 2147483648) (hy : -2147483648 ≤ y ∧ y < 2147483648) (ho : o < 8) : gMi (S := Unit) l yX2_fenceTowards wsX2_fenceTowards { frames := 2, cells := 0, slots := 0, locals := 43 } G [.ref v, .int (zI x), .int (zI y), .int (nI o)] [(v, .inr (2, [.ref h, .ref b1, .ref b2, .ref b3, .ref b4, .ref b5, .int (nI n)])), (b1, .inl (G.2.1, 256, .inl (gn ra))), (b2, .inl (G.2.1, 256, .inl (gn so))), (b3, .inl (G.2.1, 256, .inl (gn cx))), (b4, .inl (G.2.1, 256, .inl (gn cy))), (b5, .inl (G.2.1, 256, .inl (gn zs))), (h, .inr (1, [.ref a1, .ref a2, .ref a3, .int (nI pr), .int (nI tx), .int (nI sa), .int (nI fl), .int (nI lo)])), (a1, .inl (G.2.1, 256, .inl (gn ow))), (a2, .inl (G.2.1, 256, .inl (gn he))), (a3, .inl (G.2.1, 8, .inl (gn co)))] (fun (r : Int32) (u : Unit) => (r = nI (ft ow x y o))) (fun u => [(v, .inr (2, [.ref h, .ref b1, .ref b2, .ref b3, .ref b4, .ref b5, .int (nI n)])), (b1, .inl (G.2.1, 256, .inl (gn ra))), (b2, .inl (G.2.1, 256, .inl (gn so))), (b3, .inl (G.2.1, 256, .inl (gn cx))), (b4, .inl (G.2.1, 256, .inl (gn cy))), (b5, .inl (G.2.1, 256, .inl (gn zs))), (h, .inr (1, [.ref a1, .ref a2, .ref a3, .int (nI pr), .int (nI tx), .int (nI sa), .int (nI fl), .int (nI lo)])), (a1, .inl (G.2.1, 256, .inl (gn ow))), (a2, .inl (G.2.1, 256, .inl (gn he))), (a3, .inl (G.2.1, 8, .inl (gn co)))]) 0 0 := by
  refine gMet_mk (cc := cX2_fenceTowards) (nL := 5) (ret := (some .int)) (Qc := fun A => va_Qi (S := Unit) (fun (r : Int32) (u : Unit) => (r = nI (ft ow x y o))) (gB G A (fun (u : Unit) => [(v, .inr (2, [.ref h, .ref b1, .ref b2, .ref b3, .ref b4, .ref b5, .int (nI n)])), (b1, .inl (G.2.1, 256, .inl (gn ra))), (b2, .inl (G.2.1, 256, .inl (gn so))), (b3, .inl (G.2.1, 256, .inl (gn cx))), (b4, .inl (G.2.1, 256, .inl (gn cy))), (b5, .inl (G.2.1, 256, .inl (gn zs))), (h, .inr (1, [.ref a1, .ref a2, .ref a3, .int (nI pr), .int (nI tx), .int (nI sa), .int (nI fl), .int (nI lo)])), (a1, .inl (G.2.1, 256, .inl (gn ow))), (a2, .inl (G.2.1, 256, .inl (gn he))), (a3, .inl (G.2.1, 8, .inl (gn co)))])) A) (by decide) rfl (Nat.le_of_ble_eq_true rfl) ?_
  intro p e s m args below meth c A F ls hl hP hD hS
  have hx := F.1
  have hb := F.2.1
  have hts := F.2.2.2.2.2.2.1
  have hown : s.vm.findClass RX2 = some m.cls := F.2.2.2.2.2.1
  have hKK := F.2.2.2.2.2.2.2.2.1
  have hK := hKK.1
  have hin0 := F.2.2.2.2.2.2.2.1
  have hi2 : ∀ w ∈ u_ws RX2 TX2 7, w ∈ wsX2_fenceTowards := by decide +kernel
  have hl : lv_has ls 5 [(0, .ref v), (1, .int (zI x)), (2, .int (zI y)), (3, .int (nI o))] := hl
  generalize hH : s.heap = H at hP ⊢
  have hS : va_S A s.heap H [] := by rw [← hH]; exact va_S.rf
  generalize hLo : ([] : List Loc) = locs at hS ⊢
  refine lv_aload_n hx hb dX2_fenceTowards_0 rfl (lv_at hl 0 rfl) ?_
  refine va_get (D := G.1) (ci := 2) (v := .ref h) (C := RX2) (T := TX2) (N := 7) hx hb hts hi2 hown hK hP 0 rfl rfl 0 (by decide) (hts (.fieldLink RX2 12 "LandQuarters$Survey" "land" "LLandQuarters$Land;") (by decide +kernel)) (fun _ h9 => h9) rfl dX2_fenceTowards_1 ?_
  refine lv_iload_n hx hb dX2_fenceTowards_4 rfl (lv_at hl 1 rfl) ?_
  refine lv_iload_n hx hb dX2_fenceTowards_5 rfl (lv_at hl 2 rfl) ?_
  refine gCi F (gRunV (own := RX2) (C := RX1) (ci := 1) (bytes := cX1_ownerOf) (n := 2) (As := [.int (zI x), .int (zI y)]) (rest := []) F (c_ownerOf l G h a1 a2 a3 ow he co pr tx sa fl lo x y (by first | assumption | omega) (by first | assumption | omega) H.size) gX2_fenceTowards_X1_ownerOf rfl rfl rfl rfl (by decide +kernel) rfl ⟨Nat.le_of_ble_eq_true rfl, Nat.le_of_ble_eq_true rfl⟩ hP hD (lit := [(v, .inr (2, [.ref h, .ref b1, .ref b2, .ref b3, .ref b4, .ref b5, .int (nI n)])), (b1, .inl (G.2.1, 256, .inl (gn ra))), (b2, .inl (G.2.1, 256, .inl (gn so))), (b3, .inl (G.2.1, 256, .inl (gn cx))), (b4, .inl (G.2.1, 256, .inl (gn cy))), (b5, .inl (G.2.1, 256, .inl (gn zs))), (h, .inr (1, [.ref a1, .ref a2, .ref a3, .int (nI pr), .int (nI tx), .int (nI sa), .int (nI fl), .int (nI lo)])), (a1, .inl (G.2.1, 256, .inl (gn ow))), (a2, .inl (G.2.1, 256, .inl (gn he))), (a3, .inl (G.2.1, 8, .inl (gn co)))]) (wt := []) (wc := [(h, .inr (1, [.ref a1, .ref a2, .ref a3, .int (nI pr), .int (nI tx), .int (nI sa), .int (nI fl), .int (nI lo)])), (a1, .inl (G.2.1, 256, .inl (gn ow))), (a2, .inl (G.2.1, 256, .inl (gn he))), (a3, .inl (G.2.1, 8, .inl (gn co)))]) (isC := [6, 7, 8, 9]) rfl (by decide) rfl rfl rfl hl.1 (Nat.le_of_ble_eq_true rfl) dX2_fenceTowards_6 ⟨Nat.le_of_ble_eq_true rfl, Nat.le_of_ble_eq_true rfl⟩) hP hD hS (lit := [(v, .inr (2, [.ref h, .ref b1, .ref b2, .ref b3, .ref b4, .ref b5, .int (nI n)])), (b1, .inl (G.2.1, 256, .inl (gn ra))), (b2, .inl (G.2.1, 256, .inl (gn so))), (b3, .inl (G.2.1, 256, .inl (gn cx))), (b4, .inl (G.2.1, 256, .inl (gn cy))), (b5, .inl (G.2.1, 256, .inl (gn zs))), (h, .inr (1, [.ref a1, .ref a2, .ref a3, .int (nI pr), .int (nI tx), .int (nI sa), .int (nI fl), .int (nI lo)])), (a1, .inl (G.2.1, 256, .inl (gn ow))), (a2, .inl (G.2.1, 256, .inl (gn he))), (a3, .inl (G.2.1, 8, .inl (gn co)))]) (wt := []) (wc := [(h, .inr (1, [.ref a1, .ref a2, .ref a3, .int (nI pr), .int (nI tx), .int (nI sa), .int (nI fl), .int (nI lo)])), (a1, .inl (G.2.1, 256, .inl (gn ow))), (a2, .inl (G.2.1, 256, .inl (gn he))), (a3, .inl (G.2.1, 8, .inl (gn co)))]) (wr := [(v, .inr (2, [.ref h, .ref b1, .ref b2, .ref b3, .ref b4, .ref b5, .int (nI n)])), (b1, .inl (G.2.1, 256, .inl (gn ra))), (b2, .inl (G.2.1, 256, .inl (gn so))), (b3, .inl (G.2.1, 256, .inl (gn cx))), (b4, .inl (G.2.1, 256, .inl (gn cy))), (b5, .inl (G.2.1, 256, .inl (gn zs)))]) (isC := [6, 7, 8, 9]) (isR := [0, 1, 2, 3, 4, 5]) rfl rfl (by decide) (by decide) (fun r6 u H locs hp6 hP hD hS => ?_)
  subst hp6
  have hP : va_P G.1 vwCl [(v, .inr (2, [.ref h, .ref b1, .ref b2, .ref b3, .ref b4, .ref b5, .int (nI n)])), (b1, .inl (G.2.1, 256, .inl (gn ra))), (b2, .inl (G.2.1, 256, .inl (gn so))), (b3, .inl (G.2.1, 256, .inl (gn cx))), (b4, .inl (G.2.1, 256, .inl (gn cy))), (b5, .inl (G.2.1, 256, .inl (gn zs))), (h, .inr (1, [.ref a1, .ref a2, .ref a3, .int (nI pr), .int (nI tx), .int (nI sa), .int (nI fl), .int (nI lo)])), (a1, .inl (G.2.1, 256, .inl (gn ow))), (a2, .inl (G.2.1, 256, .inl (gn he))), (a3, .inl (G.2.1, 8, .inl (gn co)))] H := hP
  have hD : va_D A [(v, .inr (2, [.ref h, .ref b1, .ref b2, .ref b3, .ref b4, .ref b5, .int (nI n)])), (b1, .inl (G.2.1, 256, .inl (gn ra))), (b2, .inl (G.2.1, 256, .inl (gn so))), (b3, .inl (G.2.1, 256, .inl (gn cx))), (b4, .inl (G.2.1, 256, .inl (gn cy))), (b5, .inl (G.2.1, 256, .inl (gn zs))), (h, .inr (1, [.ref a1, .ref a2, .ref a3, .int (nI pr), .int (nI tx), .int (nI sa), .int (nI fl), .int (nI lo)])), (a1, .inl (G.2.1, 256, .inl (gn ow))), (a2, .inl (G.2.1, 256, .inl (gn he))), (a3, .inl (G.2.1, 8, .inl (gn co)))] := hD
  refine lv_istore (lv' := [(4, .int (zI (oAt ow x y))), (0, .ref v), (1, .int (zI x)), (2, .int (zI y)), (3, .int (nI o))]) hx hb dX2_fenceTowards_9 hl (by decide) rfl (fun ls hl => ?_)
  refine lv_iload hx hb dX2_fenceTowards_11 (lv_at hl 0 rfl) ?_
  refine lv_iconst (v := zI (-1)) hx hb dX2_fenceTowards_13 (by decide) ?_
  refine gZcmp_eq (a := oAt ow x y) (b := (-1)) (tgt := 27) hx hb dX2_fenceTowards_14 (by decide) (by have := oAt_b hw x y; omega) (by omega) (fun c14 => ?_) (fun c14 => ?_)
  · skip
    refine lv_iconst (v := nI 0) hx hb dX2_fenceTowards_27 (by decide) ?_
    exact gRi F dX2_fenceTowards_28 (rfl) () (by first | (rw [ft]; exact (congrArg nI (if_pos ⟨c14, c20⟩)).symm) | (rw [ft]; refine (congrArg nI (if_neg ?_)).symm; intro hh; exact hh.1 c14) | (rw [ft]; refine (congrArg nI (if_neg ?_)).symm; intro hh; exact hh.2 c20)) hP hD hS (Nat.le_refl _) (Nat.le_refl _)
  refine lv_iload hx hb dX2_fenceTowards_17 (lv_at hl 0 rfl) ?_
  refine lv_iload_n hx hb dX2_fenceTowards_19 rfl (lv_at hl 4 rfl) ?_
  refine W.eq (g2 := F0 m 20 ls [.int (zI ((o : Nat) : Int)), .int (zI (oAt ow x y))]) (by simp only [zI_nat]) ?_
  refine gZcmp_eq (a := oAt ow x y) (b := ((o : Nat) : Int)) (tgt := 27) hx hb dX2_fenceTowards_20 (by decide) (by have := oAt_b hw x y; omega) (by omega) (fun c20 => ?_) (fun c20 => ?_)
  · skip
    refine lv_iconst (v := nI 0) hx hb dX2_fenceTowards_27 (by decide) ?_
    exact gRi F dX2_fenceTowards_28 (rfl) () (by first | (rw [ft]; exact (congrArg nI (if_pos ⟨c14, c20⟩)).symm) | (rw [ft]; refine (congrArg nI (if_neg ?_)).symm; intro hh; exact hh.1 c14) | (rw [ft]; refine (congrArg nI (if_neg ?_)).symm; intro hh; exact hh.2 c20)) hP hD hS (Nat.le_refl _) (Nat.le_refl _)
  refine lv_iconst (v := nI 1) hx hb dX2_fenceTowards_23 (by decide) ?_
  refine lv_goto (tgt := 28) hx hb dX2_fenceTowards_24 (by decide) ?_
  exact gRi F dX2_fenceTowards_28 (rfl) () (by first | (rw [ft]; exact (congrArg nI (if_pos ⟨c14, c20⟩)).symm) | (rw [ft]; refine (congrArg nI (if_neg ?_)).symm; intro hh; exact hh.1 c14) | (rw [ft]; refine (congrArg nI (if_neg ?_)).symm; intro hh; exact hh.2 c20)) hP hD hS (Nat.le_refl _) (Nat.le_refl _)

set_option maxHeartbeats 4000000 in
set_option maxRecDepth 100000 in
theorem c_X2_fenceRound (l : Launch) (G : gG) (v : Nat) (b1 : Nat) (b2 : Nat) (b3 : Nat) (b4 : Nat) (b5 : Nat) (h : Nat) (a1 : Nat) (a2 : Nat) (a3 : Nat) (ow : Nat → Nat) (he : Nat → Nat) (co : Nat → Nat) (pr : Nat) (tx : Nat) (sa : Nat) (fl : Nat) (lo : Nat) (ra : Nat → Nat) (so : Nat → Nat) (cx : Nat → Nat) (cy : Nat → Nat) (zs : Nat → Nat) (n : Nat) (x : Nat) (y : Nat) (z : Nat) (o : Nat) (hw : ∀ k, ow k < 8) (hx : x < 16) (hy : y < 16) (hz : z ≤ 16) (ho : o < 8) : gMi (S := Unit) l yX2_fenceRound wsX2_fenceRound { frames := 3, cells := 0, slots := 0, locals := 67 } G [.ref v, .int (zI (x : Int)), .int (zI (y : Int)), .int (nI z), .int (nI o)] [(v, .inr (2, [.ref h, .ref b1, .ref b2, .ref b3, .ref b4, .ref b5, .int (nI n)])), (b1, .inl (G.2.1, 256, .inl (gn ra))), (b2, .inl (G.2.1, 256, .inl (gn so))), (b3, .inl (G.2.1, 256, .inl (gn cx))), (b4, .inl (G.2.1, 256, .inl (gn cy))), (b5, .inl (G.2.1, 256, .inl (gn zs))), (h, .inr (1, [.ref a1, .ref a2, .ref a3, .int (nI pr), .int (nI tx), .int (nI sa), .int (nI fl), .int (nI lo)])), (a1, .inl (G.2.1, 256, .inl (gn ow))), (a2, .inl (G.2.1, 256, .inl (gn he))), (a3, .inl (G.2.1, 8, .inl (gn co)))] (fun (r : Int32) (u : Unit) => (r = nI (frS ow x y z o z))) (fun u => [(v, .inr (2, [.ref h, .ref b1, .ref b2, .ref b3, .ref b4, .ref b5, .int (nI n)])), (b1, .inl (G.2.1, 256, .inl (gn ra))), (b2, .inl (G.2.1, 256, .inl (gn so))), (b3, .inl (G.2.1, 256, .inl (gn cx))), (b4, .inl (G.2.1, 256, .inl (gn cy))), (b5, .inl (G.2.1, 256, .inl (gn zs))), (h, .inr (1, [.ref a1, .ref a2, .ref a3, .int (nI pr), .int (nI tx), .int (nI sa), .int (nI fl), .int (nI lo)])), (a1, .inl (G.2.1, 256, .inl (gn ow))), (a2, .inl (G.2.1, 256, .inl (gn he))), (a3, .inl (G.2.1, 8, .inl (gn co)))]) 0 0 := by
  refine gMet_mk (cc := cX2_fenceRound) (nL := 7) (ret := (some .int)) (Qc := fun A => va_Qi (S := Unit) (fun (r : Int32) (u : Unit) => (r = nI (frS ow x y z o z))) (gB G A (fun (u : Unit) => [(v, .inr (2, [.ref h, .ref b1, .ref b2, .ref b3, .ref b4, .ref b5, .int (nI n)])), (b1, .inl (G.2.1, 256, .inl (gn ra))), (b2, .inl (G.2.1, 256, .inl (gn so))), (b3, .inl (G.2.1, 256, .inl (gn cx))), (b4, .inl (G.2.1, 256, .inl (gn cy))), (b5, .inl (G.2.1, 256, .inl (gn zs))), (h, .inr (1, [.ref a1, .ref a2, .ref a3, .int (nI pr), .int (nI tx), .int (nI sa), .int (nI fl), .int (nI lo)])), (a1, .inl (G.2.1, 256, .inl (gn ow))), (a2, .inl (G.2.1, 256, .inl (gn he))), (a3, .inl (G.2.1, 8, .inl (gn co)))])) A) (by decide) rfl (Nat.le_of_ble_eq_true rfl) ?_
  intro p e s m args below meth c A F ls hl hP hD hS
  have hx := F.1
  have hb := F.2.1
  have hts := F.2.2.2.2.2.2.1
  have hown : s.vm.findClass RX2 = some m.cls := F.2.2.2.2.2.1
  have hKK := F.2.2.2.2.2.2.2.2.1
  have hK := hKK.1
  have hin0 := F.2.2.2.2.2.2.2.1
  have hl : lv_has ls 7 [(0, .ref v), (1, .int (zI (x : Int))), (2, .int (zI (y : Int))), (3, .int (nI z)), (4, .int (nI o))] := hl
  generalize hH : s.heap = H at hP ⊢
  have hS : va_S A s.heap H [] := by rw [← hH]; exact va_S.rf
  generalize hLo : ([] : List Loc) = locs at hS ⊢
  refine lv_iconst (v := nI 0) hx hb dX2_fenceRound_0 (by decide) ?_
  refine lv_istore (lv' := [(5, .int (nI 0)), (0, .ref v), (1, .int (zI (x : Int))), (2, .int (zI (y : Int))), (3, .int (nI z)), (4, .int (nI o))]) hx hb dX2_fenceRound_1 hl (by decide) rfl (fun ls hl => ?_)
  refine lv_iconst (v := nI 0) hx hb dX2_fenceRound_3 (by decide) ?_
  refine lv_istore (lv' := [(6, .int (nI 0)), (5, .int (nI 0)), (0, .ref v), (1, .int (zI (x : Int))), (2, .int (zI (y : Int))), (3, .int (nI z)), (4, .int (nI o))]) hx hb dX2_fenceRound_4 hl (by decide) rfl (fun ls hl => ?_)
  have L6 : ∀ (fuel : Nat) (i : Nat), z - i < fuel → (i ≤ z) → ∀ (H : Heap) (locs : List Loc), va_P G.1 vwCl [(v, .inr (2, [.ref h, .ref b1, .ref b2, .ref b3, .ref b4, .ref b5, .int (nI n)])), (b1, .inl (G.2.1, 256, .inl (gn ra))), (b2, .inl (G.2.1, 256, .inl (gn so))), (b3, .inl (G.2.1, 256, .inl (gn cx))), (b4, .inl (G.2.1, 256, .inl (gn cy))), (b5, .inl (G.2.1, 256, .inl (gn zs))), (h, .inr (1, [.ref a1, .ref a2, .ref a3, .int (nI pr), .int (nI tx), .int (nI sa), .int (nI fl), .int (nI lo)])), (a1, .inl (G.2.1, 256, .inl (gn ow))), (a2, .inl (G.2.1, 256, .inl (gn he))), (a3, .inl (G.2.1, 8, .inl (gn co)))] H → va_D A [(v, .inr (2, [.ref h, .ref b1, .ref b2, .ref b3, .ref b4, .ref b5, .int (nI n)])), (b1, .inl (G.2.1, 256, .inl (gn ra))), (b2, .inl (G.2.1, 256, .inl (gn so))), (b3, .inl (G.2.1, 256, .inl (gn cx))), (b4, .inl (G.2.1, 256, .inl (gn cy))), (b5, .inl (G.2.1, 256, .inl (gn zs))), (h, .inr (1, [.ref a1, .ref a2, .ref a3, .int (nI pr), .int (nI tx), .int (nI sa), .int (nI fl), .int (nI lo)])), (a1, .inl (G.2.1, 256, .inl (gn ow))), (a2, .inl (G.2.1, 256, .inl (gn he))), (a3, .inl (G.2.1, 8, .inl (gn co)))] → va_S A s.heap H locs → ∀ (ls : Array Slot), lv_has ls 7 [(6, .int (nI i)), (5, .int (nI (frS ow x y z o i))), (0, .ref v), (1, .int (zI (x : Int))), (2, .int (zI (y : Int))), (3, .int (nI z)), (4, .int (nI o))] → W p l e ({ frames := 3, cells := 0, slots := 0, locals := 67 } : Room) s m args below meth c H locs 0 0 (MQ below (va_Qi (S := Unit) (fun (r : Int32) (u : Unit) => (r = nI (frS ow x y z o z))) (gB G A (fun (u : Unit) => [(v, .inr (2, [.ref h, .ref b1, .ref b2, .ref b3, .ref b4, .ref b5, .int (nI n)])), (b1, .inl (G.2.1, 256, .inl (gn ra))), (b2, .inl (G.2.1, 256, .inl (gn so))), (b3, .inl (G.2.1, 256, .inl (gn cx))), (b4, .inl (G.2.1, 256, .inl (gn cy))), (b5, .inl (G.2.1, 256, .inl (gn zs))), (h, .inr (1, [.ref a1, .ref a2, .ref a3, .int (nI pr), .int (nI tx), .int (nI sa), .int (nI fl), .int (nI lo)])), (a1, .inl (G.2.1, 256, .inl (gn ow))), (a2, .inl (G.2.1, 256, .inl (gn he))), (a3, .inl (G.2.1, 8, .inl (gn co)))])) A) args s 0 0 A) (F0 m 6 ls []) := by
    intro fuel
    induction fuel with
    | zero => intro i hme; exact absurd hme (Nat.not_lt_zero _)
    | succ fuel ih6 =>
      intro i hme hi H locs hP hD hS ls hl
      refine lv_iload hx hb dX2_fenceRound_6 (lv_at hl 0 rfl) ?_
      refine lv_iload_n hx hb dX2_fenceRound_8 rfl (lv_at hl 5 rfl) ?_
      refine gIcmp_ge (a := i) (b := z) (tgt := 90) hx hb dX2_fenceRound_9 (by decide) (by omega) (by omega) (fun c9 => ?_) (fun c9 => ?_)
      · skip
        refine lv_iload hx hb dX2_fenceRound_90 (lv_at hl 1 rfl) ?_
        exact gRi F dX2_fenceRound_92 (rfl) () (by rw [show i = z by omega]) hP hD hS (Nat.le_refl _) (Nat.le_refl _)
      refine lv_iload hx hb dX2_fenceRound_12 (lv_at hl 1 rfl) ?_
      refine lv_aload_n hx hb dX2_fenceRound_14 rfl (lv_at hl 2 rfl) ?_
      refine lv_iload_n hx hb dX2_fenceRound_15 rfl (lv_at hl 3 rfl) ?_
      refine lv_iload hx hb dX2_fenceRound_16 (lv_at hl 0 rfl) ?_
      refine W.eq (g2 := F0 m 18 ls [.int (zI ((i : Nat) : Int)), .int (zI (x : Int)), .ref v, .int (nI (frS ow x y z o i))]) (by simp only [zI_nat]) ?_
      refine gZadd (a := (x : Int)) (b := ((i : Nat) : Int)) hx hb dX2_fenceRound_18 ?_
      refine lv_iload_n hx hb dX2_fenceRound_19 rfl (lv_at hl 4 rfl) ?_
      refine lv_iconst (v := nI 1) hx hb dX2_fenceRound_20 (by decide) ?_
      refine W.eq (g2 := F0 m 21 ls [.int (zI ((1 : Nat) : Int)), .int (zI (y : Int)), .int (zI ((x : Int) + ((i : Nat) : Int))), .ref v, .int (nI (frS ow x y z o i))]) (by simp only [zI_nat]) ?_
      refine gZsub (a := (y : Int)) (b := ((1 : Nat) : Int)) hx hb dX2_fenceRound_21 ?_
      refine lv_iload hx hb dX2_fenceRound_22 (lv_at hl 6 rfl) ?_
      refine gCi F (gRunV (own := RX2) (C := RX2) (ci := 2) (bytes := cX2_fenceTowards) (n := 3) (As := [.int (zI ((x : Int) + ((i : Nat) : Int))), .int (zI ((y : Int) - ((1 : Nat) : Int))), .int (nI o)]) (rest := [.int (nI (frS ow x y z o i))]) F (c_X2_fenceTowards l G v b1 b2 b3 b4 b5 h a1 a2 a3 ow he co pr tx sa fl lo ra so cx cy zs n ((x : Int) + ((i : Nat) : Int)) ((y : Int) - ((1 : Nat) : Int)) o (by first | assumption | omega) (by first | assumption | omega) (by first | assumption | omega) (by first | assumption | omega) H.size) gX2_fenceRound_X2_fenceTowards rfl rfl rfl rfl (by decide +kernel) rfl ⟨Nat.le_of_ble_eq_true rfl, Nat.le_of_ble_eq_true rfl⟩ hP hD (lit := [(v, .inr (2, [.ref h, .ref b1, .ref b2, .ref b3, .ref b4, .ref b5, .int (nI n)])), (b1, .inl (G.2.1, 256, .inl (gn ra))), (b2, .inl (G.2.1, 256, .inl (gn so))), (b3, .inl (G.2.1, 256, .inl (gn cx))), (b4, .inl (G.2.1, 256, .inl (gn cy))), (b5, .inl (G.2.1, 256, .inl (gn zs))), (h, .inr (1, [.ref a1, .ref a2, .ref a3, .int (nI pr), .int (nI tx), .int (nI sa), .int (nI fl), .int (nI lo)])), (a1, .inl (G.2.1, 256, .inl (gn ow))), (a2, .inl (G.2.1, 256, .inl (gn he))), (a3, .inl (G.2.1, 8, .inl (gn co)))]) (wt := []) (wc := [(v, .inr (2, [.ref h, .ref b1, .ref b2, .ref b3, .ref b4, .ref b5, .int (nI n)])), (b1, .inl (G.2.1, 256, .inl (gn ra))), (b2, .inl (G.2.1, 256, .inl (gn so))), (b3, .inl (G.2.1, 256, .inl (gn cx))), (b4, .inl (G.2.1, 256, .inl (gn cy))), (b5, .inl (G.2.1, 256, .inl (gn zs))), (h, .inr (1, [.ref a1, .ref a2, .ref a3, .int (nI pr), .int (nI tx), .int (nI sa), .int (nI fl), .int (nI lo)])), (a1, .inl (G.2.1, 256, .inl (gn ow))), (a2, .inl (G.2.1, 256, .inl (gn he))), (a3, .inl (G.2.1, 8, .inl (gn co)))]) (isC := [0, 1, 2, 3, 4, 5, 6, 7, 8, 9]) rfl (by decide) rfl rfl rfl hl.1 (Nat.le_of_ble_eq_true rfl) dX2_fenceRound_24 ⟨Nat.le_of_ble_eq_true rfl, Nat.le_of_ble_eq_true rfl⟩) hP hD hS (lit := [(v, .inr (2, [.ref h, .ref b1, .ref b2, .ref b3, .ref b4, .ref b5, .int (nI n)])), (b1, .inl (G.2.1, 256, .inl (gn ra))), (b2, .inl (G.2.1, 256, .inl (gn so))), (b3, .inl (G.2.1, 256, .inl (gn cx))), (b4, .inl (G.2.1, 256, .inl (gn cy))), (b5, .inl (G.2.1, 256, .inl (gn zs))), (h, .inr (1, [.ref a1, .ref a2, .ref a3, .int (nI pr), .int (nI tx), .int (nI sa), .int (nI fl), .int (nI lo)])), (a1, .inl (G.2.1, 256, .inl (gn ow))), (a2, .inl (G.2.1, 256, .inl (gn he))), (a3, .inl (G.2.1, 8, .inl (gn co)))]) (wt := []) (wc := [(v, .inr (2, [.ref h, .ref b1, .ref b2, .ref b3, .ref b4, .ref b5, .int (nI n)])), (b1, .inl (G.2.1, 256, .inl (gn ra))), (b2, .inl (G.2.1, 256, .inl (gn so))), (b3, .inl (G.2.1, 256, .inl (gn cx))), (b4, .inl (G.2.1, 256, .inl (gn cy))), (b5, .inl (G.2.1, 256, .inl (gn zs))), (h, .inr (1, [.ref a1, .ref a2, .ref a3, .int (nI pr), .int (nI tx), .int (nI sa), .int (nI fl), .int (nI lo)])), (a1, .inl (G.2.1, 256, .inl (gn ow))), (a2, .inl (G.2.1, 256, .inl (gn he))), (a3, .inl (G.2.1, 8, .inl (gn co)))]) (wr := []) (isC := [0, 1, 2, 3, 4, 5, 6, 7, 8, 9]) (isR := []) rfl rfl (by decide) (by decide) (fun r24 u H locs hp24 hP hD hS => ?_)
      subst hp24
      have hP : va_P G.1 vwCl [(v, .inr (2, [.ref h, .ref b1, .ref b2, .ref b3, .ref b4, .ref b5, .int (nI n)])), (b1, .inl (G.2.1, 256, .inl (gn ra))), (b2, .inl (G.2.1, 256, .inl (gn so))), (b3, .inl (G.2.1, 256, .inl (gn cx))), (b4, .inl (G.2.1, 256, .inl (gn cy))), (b5, .inl (G.2.1, 256, .inl (gn zs))), (h, .inr (1, [.ref a1, .ref a2, .ref a3, .int (nI pr), .int (nI tx), .int (nI sa), .int (nI fl), .int (nI lo)])), (a1, .inl (G.2.1, 256, .inl (gn ow))), (a2, .inl (G.2.1, 256, .inl (gn he))), (a3, .inl (G.2.1, 8, .inl (gn co)))] H := hP
      have hD : va_D A [(v, .inr (2, [.ref h, .ref b1, .ref b2, .ref b3, .ref b4, .ref b5, .int (nI n)])), (b1, .inl (G.2.1, 256, .inl (gn ra))), (b2, .inl (G.2.1, 256, .inl (gn so))), (b3, .inl (G.2.1, 256, .inl (gn cx))), (b4, .inl (G.2.1, 256, .inl (gn cy))), (b5, .inl (G.2.1, 256, .inl (gn zs))), (h, .inr (1, [.ref a1, .ref a2, .ref a3, .int (nI pr), .int (nI tx), .int (nI sa), .int (nI fl), .int (nI lo)])), (a1, .inl (G.2.1, 256, .inl (gn ow))), (a2, .inl (G.2.1, 256, .inl (gn he))), (a3, .inl (G.2.1, 8, .inl (gn co)))] := hD
      refine gIadd (a := frS ow x y z o i) (b := ft ow ((x : Int) + ((i : Nat) : Int)) ((y : Int) - ((1 : Nat) : Int)) o) hx hb dX2_fenceRound_27 ?_
      refine lv_istore (lv' := [(5, .int (nI (frS ow x y z o i + (ft ow ((x : Int) + ((i : Nat) : Int)) ((y : Int) - ((1 : Nat) : Int)) o)))), (6, .int (nI i)), (0, .ref v), (1, .int (zI (x : Int))), (2, .int (zI (y : Int))), (3, .int (nI z)), (4, .int (nI o))]) hx hb dX2_fenceRound_28 hl (by decide) rfl (fun ls hl => ?_)
      refine lv_iload hx hb dX2_fenceRound_30 (lv_at hl 0 rfl) ?_
      refine lv_aload_n hx hb dX2_fenceRound_32 rfl (lv_at hl 2 rfl) ?_
      refine lv_iload_n hx hb dX2_fenceRound_33 rfl (lv_at hl 3 rfl) ?_
      refine lv_iload hx hb dX2_fenceRound_34 (lv_at hl 1 rfl) ?_
      refine W.eq (g2 := F0 m 36 ls [.int (zI ((i : Nat) : Int)), .int (zI (x : Int)), .ref v, .int (nI (frS ow x y z o i + (ft ow ((x : Int) + ((i : Nat) : Int)) ((y : Int) - ((1 : Nat) : Int)) o)))]) (by simp only [zI_nat]) ?_
      refine gZadd (a := (x : Int)) (b := ((i : Nat) : Int)) hx hb dX2_fenceRound_36 ?_
      refine lv_iload_n hx hb dX2_fenceRound_37 rfl (lv_at hl 4 rfl) ?_
      refine lv_iload_n hx hb dX2_fenceRound_38 rfl (lv_at hl 5 rfl) ?_
      refine W.eq (g2 := F0 m 39 ls [.int (zI ((z : Nat) : Int)), .int (zI (y : Int)), .int (zI ((x : Int) + ((i : Nat) : Int))), .ref v, .int (nI (frS ow x y z o i + (ft ow ((x : Int) + ((i : Nat) : Int)) ((y : Int) - ((1 : Nat) : Int)) o)))]) (by simp only [zI_nat]) ?_
      refine gZadd (a := (y : Int)) (b := ((z : Nat) : Int)) hx hb dX2_fenceRound_39 ?_
      refine lv_iload hx hb dX2_fenceRound_40 (lv_at hl 6 rfl) ?_
      refine gCi F (gRunV (own := RX2) (C := RX2) (ci := 2) (bytes := cX2_fenceTowards) (n := 3) (As := [.int (zI ((x : Int) + ((i : Nat) : Int))), .int (zI ((y : Int) + ((z : Nat) : Int))), .int (nI o)]) (rest := [.int (nI (frS ow x y z o i + (ft ow ((x : Int) + ((i : Nat) : Int)) ((y : Int) - ((1 : Nat) : Int)) o)))]) F (c_X2_fenceTowards l G v b1 b2 b3 b4 b5 h a1 a2 a3 ow he co pr tx sa fl lo ra so cx cy zs n ((x : Int) + ((i : Nat) : Int)) ((y : Int) + ((z : Nat) : Int)) o (by first | assumption | omega) (by first | assumption | omega) (by first | assumption | omega) (by first | assumption | omega) H.size) gX2_fenceRound_X2_fenceTowards rfl rfl rfl rfl (by decide +kernel) rfl ⟨Nat.le_of_ble_eq_true rfl, Nat.le_of_ble_eq_true rfl⟩ hP hD (lit := [(v, .inr (2, [.ref h, .ref b1, .ref b2, .ref b3, .ref b4, .ref b5, .int (nI n)])), (b1, .inl (G.2.1, 256, .inl (gn ra))), (b2, .inl (G.2.1, 256, .inl (gn so))), (b3, .inl (G.2.1, 256, .inl (gn cx))), (b4, .inl (G.2.1, 256, .inl (gn cy))), (b5, .inl (G.2.1, 256, .inl (gn zs))), (h, .inr (1, [.ref a1, .ref a2, .ref a3, .int (nI pr), .int (nI tx), .int (nI sa), .int (nI fl), .int (nI lo)])), (a1, .inl (G.2.1, 256, .inl (gn ow))), (a2, .inl (G.2.1, 256, .inl (gn he))), (a3, .inl (G.2.1, 8, .inl (gn co)))]) (wt := []) (wc := [(v, .inr (2, [.ref h, .ref b1, .ref b2, .ref b3, .ref b4, .ref b5, .int (nI n)])), (b1, .inl (G.2.1, 256, .inl (gn ra))), (b2, .inl (G.2.1, 256, .inl (gn so))), (b3, .inl (G.2.1, 256, .inl (gn cx))), (b4, .inl (G.2.1, 256, .inl (gn cy))), (b5, .inl (G.2.1, 256, .inl (gn zs))), (h, .inr (1, [.ref a1, .ref a2, .ref a3, .int (nI pr), .int (nI tx), .int (nI sa), .int (nI fl), .int (nI lo)])), (a1, .inl (G.2.1, 256, .inl (gn ow))), (a2, .inl (G.2.1, 256, .inl (gn he))), (a3, .inl (G.2.1, 8, .inl (gn co)))]) (isC := [0, 1, 2, 3, 4, 5, 6, 7, 8, 9]) rfl (by decide) rfl rfl rfl hl.1 (Nat.le_of_ble_eq_true rfl) dX2_fenceRound_42 ⟨Nat.le_of_ble_eq_true rfl, Nat.le_of_ble_eq_true rfl⟩) hP hD hS (lit := [(v, .inr (2, [.ref h, .ref b1, .ref b2, .ref b3, .ref b4, .ref b5, .int (nI n)])), (b1, .inl (G.2.1, 256, .inl (gn ra))), (b2, .inl (G.2.1, 256, .inl (gn so))), (b3, .inl (G.2.1, 256, .inl (gn cx))), (b4, .inl (G.2.1, 256, .inl (gn cy))), (b5, .inl (G.2.1, 256, .inl (gn zs))), (h, .inr (1, [.ref a1, .ref a2, .ref a3, .int (nI pr), .int (nI tx), .int (nI sa), .int (nI fl), .int (nI lo)])), (a1, .inl (G.2.1, 256, .inl (gn ow))), (a2, .inl (G.2.1, 256, .inl (gn he))), (a3, .inl (G.2.1, 8, .inl (gn co)))]) (wt := []) (wc := [(v, .inr (2, [.ref h, .ref b1, .ref b2, .ref b3, .ref b4, .ref b5, .int (nI n)])), (b1, .inl (G.2.1, 256, .inl (gn ra))), (b2, .inl (G.2.1, 256, .inl (gn so))), (b3, .inl (G.2.1, 256, .inl (gn cx))), (b4, .inl (G.2.1, 256, .inl (gn cy))), (b5, .inl (G.2.1, 256, .inl (gn zs))), (h, .inr (1, [.ref a1, .ref a2, .ref a3, .int (nI pr), .int (nI tx), .int (nI sa), .int (nI fl), .int (nI lo)])), (a1, .inl (G.2.1, 256, .inl (gn ow))), (a2, .inl (G.2.1, 256, .inl (gn he))), (a3, .inl (G.2.1, 8, .inl (gn co)))]) (wr := []) (isC := [0, 1, 2, 3, 4, 5, 6, 7, 8, 9]) (isR := []) rfl rfl (by decide) (by decide) (fun r42 u H locs hp42 hP hD hS => ?_)
      subst hp42
      have hP : va_P G.1 vwCl [(v, .inr (2, [.ref h, .ref b1, .ref b2, .ref b3, .ref b4, .ref b5, .int (nI n)])), (b1, .inl (G.2.1, 256, .inl (gn ra))), (b2, .inl (G.2.1, 256, .inl (gn so))), (b3, .inl (G.2.1, 256, .inl (gn cx))), (b4, .inl (G.2.1, 256, .inl (gn cy))), (b5, .inl (G.2.1, 256, .inl (gn zs))), (h, .inr (1, [.ref a1, .ref a2, .ref a3, .int (nI pr), .int (nI tx), .int (nI sa), .int (nI fl), .int (nI lo)])), (a1, .inl (G.2.1, 256, .inl (gn ow))), (a2, .inl (G.2.1, 256, .inl (gn he))), (a3, .inl (G.2.1, 8, .inl (gn co)))] H := hP
      have hD : va_D A [(v, .inr (2, [.ref h, .ref b1, .ref b2, .ref b3, .ref b4, .ref b5, .int (nI n)])), (b1, .inl (G.2.1, 256, .inl (gn ra))), (b2, .inl (G.2.1, 256, .inl (gn so))), (b3, .inl (G.2.1, 256, .inl (gn cx))), (b4, .inl (G.2.1, 256, .inl (gn cy))), (b5, .inl (G.2.1, 256, .inl (gn zs))), (h, .inr (1, [.ref a1, .ref a2, .ref a3, .int (nI pr), .int (nI tx), .int (nI sa), .int (nI fl), .int (nI lo)])), (a1, .inl (G.2.1, 256, .inl (gn ow))), (a2, .inl (G.2.1, 256, .inl (gn he))), (a3, .inl (G.2.1, 8, .inl (gn co)))] := hD
      refine gIadd (a := frS ow x y z o i + (ft ow ((x : Int) + ((i : Nat) : Int)) ((y : Int) - ((1 : Nat) : Int)) o)) (b := ft ow ((x : Int) + ((i : Nat) : Int)) ((y : Int) + ((z : Nat) : Int)) o) hx hb dX2_fenceRound_45 ?_
      refine lv_istore (lv' := [(5, .int (nI (frS ow x y z o i + (ft ow ((x : Int) + ((i : Nat) : Int)) ((y : Int) - ((1 : Nat) : Int)) o) + (ft ow ((x : Int) + ((i : Nat) : Int)) ((y : Int) + ((z : Nat) : Int)) o)))), (6, .int (nI i)), (0, .ref v), (1, .int (zI (x : Int))), (2, .int (zI (y : Int))), (3, .int (nI z)), (4, .int (nI o))]) hx hb dX2_fenceRound_46 hl (by decide) rfl (fun ls hl => ?_)
      refine lv_iload hx hb dX2_fenceRound_48 (lv_at hl 0 rfl) ?_
      refine lv_aload_n hx hb dX2_fenceRound_50 rfl (lv_at hl 2 rfl) ?_
      refine lv_iload_n hx hb dX2_fenceRound_51 rfl (lv_at hl 3 rfl) ?_
      refine lv_iconst (v := nI 1) hx hb dX2_fenceRound_52 (by decide) ?_
      refine W.eq (g2 := F0 m 53 ls [.int (zI ((1 : Nat) : Int)), .int (zI (x : Int)), .ref v, .int (nI (frS ow x y z o i + (ft ow ((x : Int) + ((i : Nat) : Int)) ((y : Int) - ((1 : Nat) : Int)) o) + (ft ow ((x : Int) + ((i : Nat) : Int)) ((y : Int) + ((z : Nat) : Int)) o)))]) (by simp only [zI_nat]) ?_
      refine gZsub (a := (x : Int)) (b := ((1 : Nat) : Int)) hx hb dX2_fenceRound_53 ?_
      refine lv_iload_n hx hb dX2_fenceRound_54 rfl (lv_at hl 4 rfl) ?_
      refine lv_iload hx hb dX2_fenceRound_55 (lv_at hl 1 rfl) ?_
      refine W.eq (g2 := F0 m 57 ls [.int (zI ((i : Nat) : Int)), .int (zI (y : Int)), .int (zI ((x : Int) - ((1 : Nat) : Int))), .ref v, .int (nI (frS ow x y z o i + (ft ow ((x : Int) + ((i : Nat) : Int)) ((y : Int) - ((1 : Nat) : Int)) o) + (ft ow ((x : Int) + ((i : Nat) : Int)) ((y : Int) + ((z : Nat) : Int)) o)))]) (by simp only [zI_nat]) ?_
      refine gZadd (a := (y : Int)) (b := ((i : Nat) : Int)) hx hb dX2_fenceRound_57 ?_
      refine lv_iload hx hb dX2_fenceRound_58 (lv_at hl 6 rfl) ?_
      refine gCi F (gRunV (own := RX2) (C := RX2) (ci := 2) (bytes := cX2_fenceTowards) (n := 3) (As := [.int (zI ((x : Int) - ((1 : Nat) : Int))), .int (zI ((y : Int) + ((i : Nat) : Int))), .int (nI o)]) (rest := [.int (nI (frS ow x y z o i + (ft ow ((x : Int) + ((i : Nat) : Int)) ((y : Int) - ((1 : Nat) : Int)) o) + (ft ow ((x : Int) + ((i : Nat) : Int)) ((y : Int) + ((z : Nat) : Int)) o)))]) F (c_X2_fenceTowards l G v b1 b2 b3 b4 b5 h a1 a2 a3 ow he co pr tx sa fl lo ra so cx cy zs n ((x : Int) - ((1 : Nat) : Int)) ((y : Int) + ((i : Nat) : Int)) o (by first | assumption | omega) (by first | assumption | omega) (by first | assumption | omega) (by first | assumption | omega) H.size) gX2_fenceRound_X2_fenceTowards rfl rfl rfl rfl (by decide +kernel) rfl ⟨Nat.le_of_ble_eq_true rfl, Nat.le_of_ble_eq_true rfl⟩ hP hD (lit := [(v, .inr (2, [.ref h, .ref b1, .ref b2, .ref b3, .ref b4, .ref b5, .int (nI n)])), (b1, .inl (G.2.1, 256, .inl (gn ra))), (b2, .inl (G.2.1, 256, .inl (gn so))), (b3, .inl (G.2.1, 256, .inl (gn cx))), (b4, .inl (G.2.1, 256, .inl (gn cy))), (b5, .inl (G.2.1, 256, .inl (gn zs))), (h, .inr (1, [.ref a1, .ref a2, .ref a3, .int (nI pr), .int (nI tx), .int (nI sa), .int (nI fl), .int (nI lo)])), (a1, .inl (G.2.1, 256, .inl (gn ow))), (a2, .inl (G.2.1, 256, .inl (gn he))), (a3, .inl (G.2.1, 8, .inl (gn co)))]) (wt := []) (wc := [(v, .inr (2, [.ref h, .ref b1, .ref b2, .ref b3, .ref b4, .ref b5, .int (nI n)])), (b1, .inl (G.2.1, 256, .inl (gn ra))), (b2, .inl (G.2.1, 256, .inl (gn so))), (b3, .inl (G.2.1, 256, .inl (gn cx))), (b4, .inl (G.2.1, 256, .inl (gn cy))), (b5, .inl (G.2.1, 256, .inl (gn zs))), (h, .inr (1, [.ref a1, .ref a2, .ref a3, .int (nI pr), .int (nI tx), .int (nI sa), .int (nI fl), .int (nI lo)])), (a1, .inl (G.2.1, 256, .inl (gn ow))), (a2, .inl (G.2.1, 256, .inl (gn he))), (a3, .inl (G.2.1, 8, .inl (gn co)))]) (isC := [0, 1, 2, 3, 4, 5, 6, 7, 8, 9]) rfl (by decide) rfl rfl rfl hl.1 (Nat.le_of_ble_eq_true rfl) dX2_fenceRound_60 ⟨Nat.le_of_ble_eq_true rfl, Nat.le_of_ble_eq_true rfl⟩) hP hD hS (lit := [(v, .inr (2, [.ref h, .ref b1, .ref b2, .ref b3, .ref b4, .ref b5, .int (nI n)])), (b1, .inl (G.2.1, 256, .inl (gn ra))), (b2, .inl (G.2.1, 256, .inl (gn so))), (b3, .inl (G.2.1, 256, .inl (gn cx))), (b4, .inl (G.2.1, 256, .inl (gn cy))), (b5, .inl (G.2.1, 256, .inl (gn zs))), (h, .inr (1, [.ref a1, .ref a2, .ref a3, .int (nI pr), .int (nI tx), .int (nI sa), .int (nI fl), .int (nI lo)])), (a1, .inl (G.2.1, 256, .inl (gn ow))), (a2, .inl (G.2.1, 256, .inl (gn he))), (a3, .inl (G.2.1, 8, .inl (gn co)))]) (wt := []) (wc := [(v, .inr (2, [.ref h, .ref b1, .ref b2, .ref b3, .ref b4, .ref b5, .int (nI n)])), (b1, .inl (G.2.1, 256, .inl (gn ra))), (b2, .inl (G.2.1, 256, .inl (gn so))), (b3, .inl (G.2.1, 256, .inl (gn cx))), (b4, .inl (G.2.1, 256, .inl (gn cy))), (b5, .inl (G.2.1, 256, .inl (gn zs))), (h, .inr (1, [.ref a1, .ref a2, .ref a3, .int (nI pr), .int (nI tx), .int (nI sa), .int (nI fl), .int (nI lo)])), (a1, .inl (G.2.1, 256, .inl (gn ow))), (a2, .inl (G.2.1, 256, .inl (gn he))), (a3, .inl (G.2.1, 8, .inl (gn co)))]) (wr := []) (isC := [0, 1, 2, 3, 4, 5, 6, 7, 8, 9]) (isR := []) rfl rfl (by decide) (by decide) (fun r60 u H locs hp60 hP hD hS => ?_)
      subst hp60
      have hP : va_P G.1 vwCl [(v, .inr (2, [.ref h, .ref b1, .ref b2, .ref b3, .ref b4, .ref b5, .int (nI n)])), (b1, .inl (G.2.1, 256, .inl (gn ra))), (b2, .inl (G.2.1, 256, .inl (gn so))), (b3, .inl (G.2.1, 256, .inl (gn cx))), (b4, .inl (G.2.1, 256, .inl (gn cy))), (b5, .inl (G.2.1, 256, .inl (gn zs))), (h, .inr (1, [.ref a1, .ref a2, .ref a3, .int (nI pr), .int (nI tx), .int (nI sa), .int (nI fl), .int (nI lo)])), (a1, .inl (G.2.1, 256, .inl (gn ow))), (a2, .inl (G.2.1, 256, .inl (gn he))), (a3, .inl (G.2.1, 8, .inl (gn co)))] H := hP
      have hD : va_D A [(v, .inr (2, [.ref h, .ref b1, .ref b2, .ref b3, .ref b4, .ref b5, .int (nI n)])), (b1, .inl (G.2.1, 256, .inl (gn ra))), (b2, .inl (G.2.1, 256, .inl (gn so))), (b3, .inl (G.2.1, 256, .inl (gn cx))), (b4, .inl (G.2.1, 256, .inl (gn cy))), (b5, .inl (G.2.1, 256, .inl (gn zs))), (h, .inr (1, [.ref a1, .ref a2, .ref a3, .int (nI pr), .int (nI tx), .int (nI sa), .int (nI fl), .int (nI lo)])), (a1, .inl (G.2.1, 256, .inl (gn ow))), (a2, .inl (G.2.1, 256, .inl (gn he))), (a3, .inl (G.2.1, 8, .inl (gn co)))] := hD
      refine gIadd (a := frS ow x y z o i + (ft ow ((x : Int) + ((i : Nat) : Int)) ((y : Int) - ((1 : Nat) : Int)) o) + (ft ow ((x : Int) + ((i : Nat) : Int)) ((y : Int) + ((z : Nat) : Int)) o)) (b := ft ow ((x : Int) - ((1 : Nat) : Int)) ((y : Int) + ((i : Nat) : Int)) o) hx hb dX2_fenceRound_63 ?_
      refine lv_istore (lv' := [(5, .int (nI (frS ow x y z o i + (ft ow ((x : Int) + ((i : Nat) : Int)) ((y : Int) - ((1 : Nat) : Int)) o) + (ft ow ((x : Int) + ((i : Nat) : Int)) ((y : Int) + ((z : Nat) : Int)) o) + (ft ow ((x : Int) - ((1 : Nat) : Int)) ((y : Int) + ((i : Nat) : Int)) o)))), (6, .int (nI i)), (0, .ref v), (1, .int (zI (x : Int))), (2, .int (zI (y : Int))), (3, .int (nI z)), (4, .int (nI o))]) hx hb dX2_fenceRound_64 hl (by decide) rfl (fun ls hl => ?_)
      refine lv_iload hx hb dX2_fenceRound_66 (lv_at hl 0 rfl) ?_
      refine lv_aload_n hx hb dX2_fenceRound_68 rfl (lv_at hl 2 rfl) ?_
      refine lv_iload_n hx hb dX2_fenceRound_69 rfl (lv_at hl 3 rfl) ?_
      refine lv_iload_n hx hb dX2_fenceRound_70 rfl (lv_at hl 5 rfl) ?_
      refine W.eq (g2 := F0 m 71 ls [.int (zI ((z : Nat) : Int)), .int (zI (x : Int)), .ref v, .int (nI (frS ow x y z o i + (ft ow ((x : Int) + ((i : Nat) : Int)) ((y : Int) - ((1 : Nat) : Int)) o) + (ft ow ((x : Int) + ((i : Nat) : Int)) ((y : Int) + ((z : Nat) : Int)) o) + (ft ow ((x : Int) - ((1 : Nat) : Int)) ((y : Int) + ((i : Nat) : Int)) o)))]) (by simp only [zI_nat]) ?_
      refine gZadd (a := (x : Int)) (b := ((z : Nat) : Int)) hx hb dX2_fenceRound_71 ?_
      refine lv_iload_n hx hb dX2_fenceRound_72 rfl (lv_at hl 4 rfl) ?_
      refine lv_iload hx hb dX2_fenceRound_73 (lv_at hl 1 rfl) ?_
      refine W.eq (g2 := F0 m 75 ls [.int (zI ((i : Nat) : Int)), .int (zI (y : Int)), .int (zI ((x : Int) + ((z : Nat) : Int))), .ref v, .int (nI (frS ow x y z o i + (ft ow ((x : Int) + ((i : Nat) : Int)) ((y : Int) - ((1 : Nat) : Int)) o) + (ft ow ((x : Int) + ((i : Nat) : Int)) ((y : Int) + ((z : Nat) : Int)) o) + (ft ow ((x : Int) - ((1 : Nat) : Int)) ((y : Int) + ((i : Nat) : Int)) o)))]) (by simp only [zI_nat]) ?_
      refine gZadd (a := (y : Int)) (b := ((i : Nat) : Int)) hx hb dX2_fenceRound_75 ?_
      refine lv_iload hx hb dX2_fenceRound_76 (lv_at hl 6 rfl) ?_
      refine gCi F (gRunV (own := RX2) (C := RX2) (ci := 2) (bytes := cX2_fenceTowards) (n := 3) (As := [.int (zI ((x : Int) + ((z : Nat) : Int))), .int (zI ((y : Int) + ((i : Nat) : Int))), .int (nI o)]) (rest := [.int (nI (frS ow x y z o i + (ft ow ((x : Int) + ((i : Nat) : Int)) ((y : Int) - ((1 : Nat) : Int)) o) + (ft ow ((x : Int) + ((i : Nat) : Int)) ((y : Int) + ((z : Nat) : Int)) o) + (ft ow ((x : Int) - ((1 : Nat) : Int)) ((y : Int) + ((i : Nat) : Int)) o)))]) F (c_X2_fenceTowards l G v b1 b2 b3 b4 b5 h a1 a2 a3 ow he co pr tx sa fl lo ra so cx cy zs n ((x : Int) + ((z : Nat) : Int)) ((y : Int) + ((i : Nat) : Int)) o (by first | assumption | omega) (by first | assumption | omega) (by first | assumption | omega) (by first | assumption | omega) H.size) gX2_fenceRound_X2_fenceTowards rfl rfl rfl rfl (by decide +kernel) rfl ⟨Nat.le_of_ble_eq_true rfl, Nat.le_of_ble_eq_true rfl⟩ hP hD (lit := [(v, .inr (2, [.ref h, .ref b1, .ref b2, .ref b3, .ref b4, .ref b5, .int (nI n)])), (b1, .inl (G.2.1, 256, .inl (gn ra))), (b2, .inl (G.2.1, 256, .inl (gn so))), (b3, .inl (G.2.1, 256, .inl (gn cx))), (b4, .inl (G.2.1, 256, .inl (gn cy))), (b5, .inl (G.2.1, 256, .inl (gn zs))), (h, .inr (1, [.ref a1, .ref a2, .ref a3, .int (nI pr), .int (nI tx), .int (nI sa), .int (nI fl), .int (nI lo)])), (a1, .inl (G.2.1, 256, .inl (gn ow))), (a2, .inl (G.2.1, 256, .inl (gn he))), (a3, .inl (G.2.1, 8, .inl (gn co)))]) (wt := []) (wc := [(v, .inr (2, [.ref h, .ref b1, .ref b2, .ref b3, .ref b4, .ref b5, .int (nI n)])), (b1, .inl (G.2.1, 256, .inl (gn ra))), (b2, .inl (G.2.1, 256, .inl (gn so))), (b3, .inl (G.2.1, 256, .inl (gn cx))), (b4, .inl (G.2.1, 256, .inl (gn cy))), (b5, .inl (G.2.1, 256, .inl (gn zs))), (h, .inr (1, [.ref a1, .ref a2, .ref a3, .int (nI pr), .int (nI tx), .int (nI sa), .int (nI fl), .int (nI lo)])), (a1, .inl (G.2.1, 256, .inl (gn ow))), (a2, .inl (G.2.1, 256, .inl (gn he))), (a3, .inl (G.2.1, 8, .inl (gn co)))]) (isC := [0, 1, 2, 3, 4, 5, 6, 7, 8, 9]) rfl (by decide) rfl rfl rfl hl.1 (Nat.le_of_ble_eq_true rfl) dX2_fenceRound_78 ⟨Nat.le_of_ble_eq_true rfl, Nat.le_of_ble_eq_true rfl⟩) hP hD hS (lit := [(v, .inr (2, [.ref h, .ref b1, .ref b2, .ref b3, .ref b4, .ref b5, .int (nI n)])), (b1, .inl (G.2.1, 256, .inl (gn ra))), (b2, .inl (G.2.1, 256, .inl (gn so))), (b3, .inl (G.2.1, 256, .inl (gn cx))), (b4, .inl (G.2.1, 256, .inl (gn cy))), (b5, .inl (G.2.1, 256, .inl (gn zs))), (h, .inr (1, [.ref a1, .ref a2, .ref a3, .int (nI pr), .int (nI tx), .int (nI sa), .int (nI fl), .int (nI lo)])), (a1, .inl (G.2.1, 256, .inl (gn ow))), (a2, .inl (G.2.1, 256, .inl (gn he))), (a3, .inl (G.2.1, 8, .inl (gn co)))]) (wt := []) (wc := [(v, .inr (2, [.ref h, .ref b1, .ref b2, .ref b3, .ref b4, .ref b5, .int (nI n)])), (b1, .inl (G.2.1, 256, .inl (gn ra))), (b2, .inl (G.2.1, 256, .inl (gn so))), (b3, .inl (G.2.1, 256, .inl (gn cx))), (b4, .inl (G.2.1, 256, .inl (gn cy))), (b5, .inl (G.2.1, 256, .inl (gn zs))), (h, .inr (1, [.ref a1, .ref a2, .ref a3, .int (nI pr), .int (nI tx), .int (nI sa), .int (nI fl), .int (nI lo)])), (a1, .inl (G.2.1, 256, .inl (gn ow))), (a2, .inl (G.2.1, 256, .inl (gn he))), (a3, .inl (G.2.1, 8, .inl (gn co)))]) (wr := []) (isC := [0, 1, 2, 3, 4, 5, 6, 7, 8, 9]) (isR := []) rfl rfl (by decide) (by decide) (fun r78 u H locs hp78 hP hD hS => ?_)
      subst hp78
      have hP : va_P G.1 vwCl [(v, .inr (2, [.ref h, .ref b1, .ref b2, .ref b3, .ref b4, .ref b5, .int (nI n)])), (b1, .inl (G.2.1, 256, .inl (gn ra))), (b2, .inl (G.2.1, 256, .inl (gn so))), (b3, .inl (G.2.1, 256, .inl (gn cx))), (b4, .inl (G.2.1, 256, .inl (gn cy))), (b5, .inl (G.2.1, 256, .inl (gn zs))), (h, .inr (1, [.ref a1, .ref a2, .ref a3, .int (nI pr), .int (nI tx), .int (nI sa), .int (nI fl), .int (nI lo)])), (a1, .inl (G.2.1, 256, .inl (gn ow))), (a2, .inl (G.2.1, 256, .inl (gn he))), (a3, .inl (G.2.1, 8, .inl (gn co)))] H := hP
      have hD : va_D A [(v, .inr (2, [.ref h, .ref b1, .ref b2, .ref b3, .ref b4, .ref b5, .int (nI n)])), (b1, .inl (G.2.1, 256, .inl (gn ra))), (b2, .inl (G.2.1, 256, .inl (gn so))), (b3, .inl (G.2.1, 256, .inl (gn cx))), (b4, .inl (G.2.1, 256, .inl (gn cy))), (b5, .inl (G.2.1, 256, .inl (gn zs))), (h, .inr (1, [.ref a1, .ref a2, .ref a3, .int (nI pr), .int (nI tx), .int (nI sa), .int (nI fl), .int (nI lo)])), (a1, .inl (G.2.1, 256, .inl (gn ow))), (a2, .inl (G.2.1, 256, .inl (gn he))), (a3, .inl (G.2.1, 8, .inl (gn co)))] := hD
      refine gIadd (a := frS ow x y z o i + (ft ow ((x : Int) + ((i : Nat) : Int)) ((y : Int) - ((1 : Nat) : Int)) o) + (ft ow ((x : Int) + ((i : Nat) : Int)) ((y : Int) + ((z : Nat) : Int)) o) + (ft ow ((x : Int) - ((1 : Nat) : Int)) ((y : Int) + ((i : Nat) : Int)) o)) (b := ft ow ((x : Int) + ((z : Nat) : Int)) ((y : Int) + ((i : Nat) : Int)) o) hx hb dX2_fenceRound_81 ?_
      refine lv_istore (lv' := [(5, .int (nI (frS ow x y z o i + (ft ow ((x : Int) + ((i : Nat) : Int)) ((y : Int) - ((1 : Nat) : Int)) o) + (ft ow ((x : Int) + ((i : Nat) : Int)) ((y : Int) + ((z : Nat) : Int)) o) + (ft ow ((x : Int) - ((1 : Nat) : Int)) ((y : Int) + ((i : Nat) : Int)) o) + (ft ow ((x : Int) + ((z : Nat) : Int)) ((y : Int) + ((i : Nat) : Int)) o)))), (6, .int (nI i)), (0, .ref v), (1, .int (zI (x : Int))), (2, .int (zI (y : Int))), (3, .int (nI z)), (4, .int (nI o))]) hx hb dX2_fenceRound_82 hl (by decide) rfl (fun ls hl => ?_)
      refine lv_iinc (v := nI (i + 1)) (lv' := [(6, .int (nI (i + 1))), (5, .int (nI (frS ow x y z o i + (ft ow ((x : Int) + ((i : Nat) : Int)) ((y : Int) - ((1 : Nat) : Int)) o) + (ft ow ((x : Int) + ((i : Nat) : Int)) ((y : Int) + ((z : Nat) : Int)) o) + (ft ow ((x : Int) - ((1 : Nat) : Int)) ((y : Int) + ((i : Nat) : Int)) o) + (ft ow ((x : Int) + ((z : Nat) : Int)) ((y : Int) + ((i : Nat) : Int)) o)))), (0, .ref v), (1, .int (zI (x : Int))), (2, .int (zI (y : Int))), (3, .int (nI z)), (4, .int (nI o))]) hx hb dX2_fenceRound_84 hl (k := 1) rfl (gInc_p _ rfl) (by decide) rfl (fun ls hl => ?_)
      refine lv_goto (tgt := 6) hx hb dX2_fenceRound_87 (by decide) ?_
      have hl : lv_has ls 7 [(6, .int (nI (i + 1))), (5, .int (nI (frS ow x y z o i + (ft ow ((x : Int) + ((i : Nat) : Int)) ((y : Int) - ((1 : Nat) : Int)) o) + (ft ow ((x : Int) + ((i : Nat) : Int)) ((y : Int) + ((z : Nat) : Int)) o) + (ft ow ((x : Int) - ((1 : Nat) : Int)) ((y : Int) + ((i : Nat) : Int)) o) + (ft ow ((x : Int) + ((z : Nat) : Int)) ((y : Int) + ((i : Nat) : Int)) o)))), (0, .ref v), (1, .int (zI (x : Int))), (2, .int (zI (y : Int))), (3, .int (nI z)), (4, .int (nI o))] := lv_sub hl [0, 1, 2, 3, 4, 5, 6] rfl
      have hle : (.int (nI (frS ow x y z o i + (ft ow ((x : Int) + ((i : Nat) : Int)) ((y : Int) - ((1 : Nat) : Int)) o) + (ft ow ((x : Int) + ((i : Nat) : Int)) ((y : Int) + ((z : Nat) : Int)) o) + (ft ow ((x : Int) - ((1 : Nat) : Int)) ((y : Int) + ((i : Nat) : Int)) o) + (ft ow ((x : Int) + ((z : Nat) : Int)) ((y : Int) + ((i : Nat) : Int)) o))) : Value) = .int (nI (frS ow x y z o (i + 1))) := by rfl
      rw [hle] at hl
      have hy_1 : (i + 1) ≤ z := by omega
      exact ih6 (i + 1) (by omega) hy_1 H locs hP hD hS ls hl
  have hl : lv_has ls 7 [(6, .int (nI 0)), (5, .int (nI 0)), (0, .ref v), (1, .int (zI (x : Int))), (2, .int (zI (y : Int))), (3, .int (nI z)), (4, .int (nI o))] := lv_sub hl [0, 1, 2, 3, 4, 5, 6] rfl
  have hle : (.int (nI 0) : Value) = .int (nI (frS ow x y z o 0)) := by rfl
  rw [hle] at hl
  have hy_2 : 0 ≤ z := by omega
  exact L6 _ 0 (Nat.lt_succ_self _) hy_2 H locs hP hD hS ls hl

set_option maxHeartbeats 4000000 in
set_option maxRecDepth 100000 in
theorem c_X2_fenceOf (l : Launch) (G : gG) (v : Nat) (b1 : Nat) (b2 : Nat) (b3 : Nat) (b4 : Nat) (b5 : Nat) (h : Nat) (a1 : Nat) (a2 : Nat) (a3 : Nat) (ow : Nat → Nat) (he : Nat → Nat) (co : Nat → Nat) (pr : Nat) (tx : Nat) (sa : Nat) (fl : Nat) (lo : Nat) (ra : Nat → Nat) (so : Nat → Nat) (cx : Nat → Nat) (cy : Nat → Nat) (zs : Nat → Nat) (n : Nat) (o : Nat) (hw : ∀ k, ow k < 8) (hn : n ≤ 256) (hso : ∀ k, k < n → so k < 8) (ho : o < 8) (hcr : ∀ k, k < n → cx k < 16 ∧ cy k < 16 ∧ zs k ≤ 16) : gMi (S := Unit) l yX2_fenceOf wsX2_fenceOf { frames := 4, cells := 0, slots := 0, locals := 93 } G [.ref v, .int (nI o)] [(v, .inr (2, [.ref h, .ref b1, .ref b2, .ref b3, .ref b4, .ref b5, .int (nI n)])), (b1, .inl (G.2.1, 256, .inl (gn ra))), (b2, .inl (G.2.1, 256, .inl (gn so))), (b3, .inl (G.2.1, 256, .inl (gn cx))), (b4, .inl (G.2.1, 256, .inl (gn cy))), (b5, .inl (G.2.1, 256, .inl (gn zs))), (h, .inr (1, [.ref a1, .ref a2, .ref a3, .int (nI pr), .int (nI tx), .int (nI sa), .int (nI fl), .int (nI lo)])), (a1, .inl (G.2.1, 256, .inl (gn ow))), (a2, .inl (G.2.1, 256, .inl (gn he))), (a3, .inl (G.2.1, 8, .inl (gn co)))] (fun (r : Int32) (u : Unit) => (r = nI (sFn ow so cx cy zs o n))) (fun u => [(v, .inr (2, [.ref h, .ref b1, .ref b2, .ref b3, .ref b4, .ref b5, .int (nI n)])), (b1, .inl (G.2.1, 256, .inl (gn ra))), (b2, .inl (G.2.1, 256, .inl (gn so))), (b3, .inl (G.2.1, 256, .inl (gn cx))), (b4, .inl (G.2.1, 256, .inl (gn cy))), (b5, .inl (G.2.1, 256, .inl (gn zs))), (h, .inr (1, [.ref a1, .ref a2, .ref a3, .int (nI pr), .int (nI tx), .int (nI sa), .int (nI fl), .int (nI lo)])), (a1, .inl (G.2.1, 256, .inl (gn ow))), (a2, .inl (G.2.1, 256, .inl (gn he))), (a3, .inl (G.2.1, 8, .inl (gn co)))]) 0 0 := by
  refine gMet_mk (cc := cX2_fenceOf) (nL := 4) (ret := (some .int)) (Qc := fun A => va_Qi (S := Unit) (fun (r : Int32) (u : Unit) => (r = nI (sFn ow so cx cy zs o n))) (gB G A (fun (u : Unit) => [(v, .inr (2, [.ref h, .ref b1, .ref b2, .ref b3, .ref b4, .ref b5, .int (nI n)])), (b1, .inl (G.2.1, 256, .inl (gn ra))), (b2, .inl (G.2.1, 256, .inl (gn so))), (b3, .inl (G.2.1, 256, .inl (gn cx))), (b4, .inl (G.2.1, 256, .inl (gn cy))), (b5, .inl (G.2.1, 256, .inl (gn zs))), (h, .inr (1, [.ref a1, .ref a2, .ref a3, .int (nI pr), .int (nI tx), .int (nI sa), .int (nI fl), .int (nI lo)])), (a1, .inl (G.2.1, 256, .inl (gn ow))), (a2, .inl (G.2.1, 256, .inl (gn he))), (a3, .inl (G.2.1, 8, .inl (gn co)))])) A) (by decide) rfl (Nat.le_of_ble_eq_true rfl) ?_
  intro p e s m args below meth c A F ls hl hP hD hS
  have hx := F.1
  have hb := F.2.1
  have hts := F.2.2.2.2.2.2.1
  have hown : s.vm.findClass RX2 = some m.cls := F.2.2.2.2.2.1
  have hKK := F.2.2.2.2.2.2.2.2.1
  have hK := hKK.1
  have hin0 := F.2.2.2.2.2.2.2.1
  have hi2 : ∀ w ∈ u_ws RX2 TX2 7, w ∈ wsX2_fenceOf := by decide +kernel
  have hl : lv_has ls 4 [(0, .ref v), (1, .int (nI o))] := hl
  generalize hH : s.heap = H at hP ⊢
  have hS : va_S A s.heap H [] := by rw [← hH]; exact va_S.rf
  generalize hLo : ([] : List Loc) = locs at hS ⊢
  refine lv_iconst (v := nI 0) hx hb dX2_fenceOf_0 (by decide) ?_
  refine lv_istore_n (lv' := [(2, .int (nI 0)), (0, .ref v), (1, .int (nI o))]) hx hb dX2_fenceOf_1 rfl hl (by decide) rfl (fun ls hl => ?_)
  refine lv_iconst (v := nI 0) hx hb dX2_fenceOf_2 (by decide) ?_
  refine lv_istore_n (lv' := [(3, .int (nI 0)), (2, .int (nI 0)), (0, .ref v), (1, .int (nI o))]) hx hb dX2_fenceOf_3 rfl hl (by decide) rfl (fun ls hl => ?_)
  have L4 : ∀ (fuel : Nat) (k : Nat), n - k < fuel → (k ≤ n) → ∀ (H : Heap) (locs : List Loc), va_P G.1 vwCl [(v, .inr (2, [.ref h, .ref b1, .ref b2, .ref b3, .ref b4, .ref b5, .int (nI n)])), (b1, .inl (G.2.1, 256, .inl (gn ra))), (b2, .inl (G.2.1, 256, .inl (gn so))), (b3, .inl (G.2.1, 256, .inl (gn cx))), (b4, .inl (G.2.1, 256, .inl (gn cy))), (b5, .inl (G.2.1, 256, .inl (gn zs))), (h, .inr (1, [.ref a1, .ref a2, .ref a3, .int (nI pr), .int (nI tx), .int (nI sa), .int (nI fl), .int (nI lo)])), (a1, .inl (G.2.1, 256, .inl (gn ow))), (a2, .inl (G.2.1, 256, .inl (gn he))), (a3, .inl (G.2.1, 8, .inl (gn co)))] H → va_D A [(v, .inr (2, [.ref h, .ref b1, .ref b2, .ref b3, .ref b4, .ref b5, .int (nI n)])), (b1, .inl (G.2.1, 256, .inl (gn ra))), (b2, .inl (G.2.1, 256, .inl (gn so))), (b3, .inl (G.2.1, 256, .inl (gn cx))), (b4, .inl (G.2.1, 256, .inl (gn cy))), (b5, .inl (G.2.1, 256, .inl (gn zs))), (h, .inr (1, [.ref a1, .ref a2, .ref a3, .int (nI pr), .int (nI tx), .int (nI sa), .int (nI fl), .int (nI lo)])), (a1, .inl (G.2.1, 256, .inl (gn ow))), (a2, .inl (G.2.1, 256, .inl (gn he))), (a3, .inl (G.2.1, 8, .inl (gn co)))] → va_S A s.heap H locs → ∀ (ls : Array Slot), lv_has ls 4 [(3, .int (nI k)), (2, .int (nI (sFn ow so cx cy zs o k))), (0, .ref v), (1, .int (nI o))] → W p l e ({ frames := 4, cells := 0, slots := 0, locals := 93 } : Room) s m args below meth c H locs 0 0 (MQ below (va_Qi (S := Unit) (fun (r : Int32) (u : Unit) => (r = nI (sFn ow so cx cy zs o n))) (gB G A (fun (u : Unit) => [(v, .inr (2, [.ref h, .ref b1, .ref b2, .ref b3, .ref b4, .ref b5, .int (nI n)])), (b1, .inl (G.2.1, 256, .inl (gn ra))), (b2, .inl (G.2.1, 256, .inl (gn so))), (b3, .inl (G.2.1, 256, .inl (gn cx))), (b4, .inl (G.2.1, 256, .inl (gn cy))), (b5, .inl (G.2.1, 256, .inl (gn zs))), (h, .inr (1, [.ref a1, .ref a2, .ref a3, .int (nI pr), .int (nI tx), .int (nI sa), .int (nI fl), .int (nI lo)])), (a1, .inl (G.2.1, 256, .inl (gn ow))), (a2, .inl (G.2.1, 256, .inl (gn he))), (a3, .inl (G.2.1, 8, .inl (gn co)))])) A) args s 0 0 A) (F0 m 4 ls []) := by
    intro fuel
    induction fuel with
    | zero => intro k hme; exact absurd hme (Nat.not_lt_zero _)
    | succ fuel ih4 =>
      intro k hme hk H locs hP hD hS ls hl
      refine lv_iload_n hx hb dX2_fenceOf_4 rfl (lv_at hl 0 rfl) ?_
      refine lv_aload_n hx hb dX2_fenceOf_5 rfl (lv_at hl 2 rfl) ?_
      refine va_get (D := G.1) (ci := 2) (v := .int (nI n)) (C := RX2) (T := TX2) (N := 7) hx hb hts hi2 hown hK hP 0 rfl rfl 6 (by decide) (hts (.fieldLink RX2 34 "LandQuarters$Survey" "plotCount" "I") (by decide +kernel)) (fun _ h9 => h9) rfl dX2_fenceOf_6 ?_
      refine gIcmp_ge (a := k) (b := n) (tgt := 61) hx hb dX2_fenceOf_9 (by decide) (by omega) (by omega) (fun c9 => ?_) (fun c9 => ?_)
      · skip
        refine lv_iload_n hx hb dX2_fenceOf_61 rfl (lv_at hl 1 rfl) ?_
        exact gRi F dX2_fenceOf_62 (rfl) () (by rw [show k = n by omega]) hP hD hS (Nat.le_refl _) (Nat.le_refl _)
      refine lv_iload_n hx hb dX2_fenceOf_12 rfl (lv_at hl 0 rfl) ?_
      refine lv_sipush (v := nI 256) hx hb dX2_fenceOf_13 (by decide) ?_
      refine gIcmp_ge (a := k) (b := 256) (tgt := 61) hx hb dX2_fenceOf_16 (by decide) (by omega) (by omega) (fun c16 => ?_) (fun c16 => ?_)
      · skip
        exfalso; omega
      refine lv_aload_n hx hb dX2_fenceOf_19 rfl (lv_at hl 2 rfl) ?_
      refine va_get (D := G.1) (ci := 2) (v := .ref b2) (C := RX2) (T := TX2) (N := 7) hx hb hts hi2 hown hK hP 0 rfl rfl 2 (by decide) (hts (.fieldLink RX2 22 "LandQuarters$Survey" "owners" "[I") (by decide +kernel)) (fun _ h9 => h9) rfl dX2_fenceOf_20 ?_
      refine lv_iload_n hx hb dX2_fenceOf_23 rfl (lv_at hl 0 rfl) ?_
      refine gNald (k := k) hx hb hK hP 2 0 rfl rfl (by omega) (by first | decide | omega) dX2_fenceOf_24 ?_
      refine lv_iload_n hx hb dX2_fenceOf_25 rfl (lv_at hl 3 rfl) ?_
      refine gIcmp_ne (a := so k) (b := o) (tgt := 55) hx hb dX2_fenceOf_26 (by decide) (by have := hso k (by omega); omega) (by omega) (fun c26 => ?_) (fun c26 => ?_)
      · skip
        refine lv_iinc (v := nI (k + 1)) (lv' := [(3, .int (nI (k + 1))), (2, .int (nI (sFn ow so cx cy zs o k))), (0, .ref v), (1, .int (nI o))]) hx hb dX2_fenceOf_55 hl (k := 0) rfl (gInc_p _ rfl) (by decide) rfl (fun ls hl => ?_)
        refine lv_goto (tgt := 4) hx hb dX2_fenceOf_58 (by decide) ?_
        have hl : lv_has ls 4 [(3, .int (nI (k + 1))), (2, .int (nI (sFn ow so cx cy zs o k))), (0, .ref v), (1, .int (nI o))] := lv_sub hl [0, 1, 2, 3] rfl
        have hle : (.int (nI (sFn ow so cx cy zs o k)) : Value) = .int (nI (sFn ow so cx cy zs o (k + 1))) := by congr 2; simp only [sFn]; first | rw [if_pos c26] | (rw [if_neg c26]; rfl)
        rw [hle] at hl
        have hy_1 : (k + 1) ≤ n := by omega
        exact ih4 (k + 1) (by omega) hy_1 H locs hP hD hS ls hl
      refine lv_iload_n hx hb dX2_fenceOf_29 rfl (lv_at hl 1 rfl) ?_
      refine lv_aload_n hx hb dX2_fenceOf_30 rfl (lv_at hl 2 rfl) ?_
      refine lv_aload_n hx hb dX2_fenceOf_31 rfl (lv_at hl 2 rfl) ?_
      refine va_get (D := G.1) (ci := 2) (v := .ref b3) (C := RX2) (T := TX2) (N := 7) hx hb hts hi2 hown hK hP 0 rfl rfl 3 (by decide) (hts (.fieldLink RX2 25 "LandQuarters$Survey" "cornerXs" "[I") (by decide +kernel)) (fun _ h9 => h9) rfl dX2_fenceOf_32 ?_
      refine lv_iload_n hx hb dX2_fenceOf_35 rfl (lv_at hl 0 rfl) ?_
      refine gNald (k := k) hx hb hK hP 3 0 rfl rfl (by omega) (by first | decide | omega) dX2_fenceOf_36 ?_
      refine lv_aload_n hx hb dX2_fenceOf_37 rfl (lv_at hl 2 rfl) ?_
      refine va_get (D := G.1) (ci := 2) (v := .ref b4) (C := RX2) (T := TX2) (N := 7) hx hb hts hi2 hown hK hP 0 rfl rfl 4 (by decide) (hts (.fieldLink RX2 28 "LandQuarters$Survey" "cornerYs" "[I") (by decide +kernel)) (fun _ h9 => h9) rfl dX2_fenceOf_38 ?_
      refine lv_iload_n hx hb dX2_fenceOf_41 rfl (lv_at hl 0 rfl) ?_
      refine gNald (k := k) hx hb hK hP 4 0 rfl rfl (by omega) (by first | decide | omega) dX2_fenceOf_42 ?_
      refine lv_aload_n hx hb dX2_fenceOf_43 rfl (lv_at hl 2 rfl) ?_
      refine va_get (D := G.1) (ci := 2) (v := .ref b5) (C := RX2) (T := TX2) (N := 7) hx hb hts hi2 hown hK hP 0 rfl rfl 5 (by decide) (hts (.fieldLink RX2 31 "LandQuarters$Survey" "sizes" "[I") (by decide +kernel)) (fun _ h9 => h9) rfl dX2_fenceOf_44 ?_
      refine lv_iload_n hx hb dX2_fenceOf_47 rfl (lv_at hl 0 rfl) ?_
      refine gNald (k := k) hx hb hK hP 5 0 rfl rfl (by omega) (by first | decide | omega) dX2_fenceOf_48 ?_
      refine lv_iload_n hx hb dX2_fenceOf_49 rfl (lv_at hl 3 rfl) ?_
      refine W.eq (g2 := F0 m 50 ls [.int (nI o), .int (nI (zs k)), .int (zI ((cy k) : Int)), .int (zI ((cx k) : Int)), .ref v, .int (nI (sFn ow so cx cy zs o k))]) (by simp only [zI_nat]) ?_
      refine gCi F (gRunV (own := RX2) (C := RX2) (ci := 2) (bytes := cX2_fenceRound) (n := 4) (As := [.int (zI ((cx k) : Int)), .int (zI ((cy k) : Int)), .int (nI (zs k)), .int (nI o)]) (rest := [.int (nI (sFn ow so cx cy zs o k))]) F (c_X2_fenceRound l G v b1 b2 b3 b4 b5 h a1 a2 a3 ow he co pr tx sa fl lo ra so cx cy zs n (cx k) (cy k) (zs k) o (by first | assumption | omega) ((hcr k (by omega)).1) ((hcr k (by omega)).2.1) ((hcr k (by omega)).2.2) (by first | assumption | omega) H.size) gX2_fenceOf_X2_fenceRound rfl rfl rfl rfl (by decide +kernel) rfl ⟨Nat.le_of_ble_eq_true rfl, Nat.le_of_ble_eq_true rfl⟩ hP hD (lit := [(v, .inr (2, [.ref h, .ref b1, .ref b2, .ref b3, .ref b4, .ref b5, .int (nI n)])), (b1, .inl (G.2.1, 256, .inl (gn ra))), (b2, .inl (G.2.1, 256, .inl (gn so))), (b3, .inl (G.2.1, 256, .inl (gn cx))), (b4, .inl (G.2.1, 256, .inl (gn cy))), (b5, .inl (G.2.1, 256, .inl (gn zs))), (h, .inr (1, [.ref a1, .ref a2, .ref a3, .int (nI pr), .int (nI tx), .int (nI sa), .int (nI fl), .int (nI lo)])), (a1, .inl (G.2.1, 256, .inl (gn ow))), (a2, .inl (G.2.1, 256, .inl (gn he))), (a3, .inl (G.2.1, 8, .inl (gn co)))]) (wt := []) (wc := [(v, .inr (2, [.ref h, .ref b1, .ref b2, .ref b3, .ref b4, .ref b5, .int (nI n)])), (b1, .inl (G.2.1, 256, .inl (gn ra))), (b2, .inl (G.2.1, 256, .inl (gn so))), (b3, .inl (G.2.1, 256, .inl (gn cx))), (b4, .inl (G.2.1, 256, .inl (gn cy))), (b5, .inl (G.2.1, 256, .inl (gn zs))), (h, .inr (1, [.ref a1, .ref a2, .ref a3, .int (nI pr), .int (nI tx), .int (nI sa), .int (nI fl), .int (nI lo)])), (a1, .inl (G.2.1, 256, .inl (gn ow))), (a2, .inl (G.2.1, 256, .inl (gn he))), (a3, .inl (G.2.1, 8, .inl (gn co)))]) (isC := [0, 1, 2, 3, 4, 5, 6, 7, 8, 9]) rfl (by decide) rfl rfl rfl hl.1 (Nat.le_of_ble_eq_true rfl) dX2_fenceOf_50 ⟨Nat.le_of_ble_eq_true rfl, Nat.le_of_ble_eq_true rfl⟩) hP hD hS (lit := [(v, .inr (2, [.ref h, .ref b1, .ref b2, .ref b3, .ref b4, .ref b5, .int (nI n)])), (b1, .inl (G.2.1, 256, .inl (gn ra))), (b2, .inl (G.2.1, 256, .inl (gn so))), (b3, .inl (G.2.1, 256, .inl (gn cx))), (b4, .inl (G.2.1, 256, .inl (gn cy))), (b5, .inl (G.2.1, 256, .inl (gn zs))), (h, .inr (1, [.ref a1, .ref a2, .ref a3, .int (nI pr), .int (nI tx), .int (nI sa), .int (nI fl), .int (nI lo)])), (a1, .inl (G.2.1, 256, .inl (gn ow))), (a2, .inl (G.2.1, 256, .inl (gn he))), (a3, .inl (G.2.1, 8, .inl (gn co)))]) (wt := []) (wc := [(v, .inr (2, [.ref h, .ref b1, .ref b2, .ref b3, .ref b4, .ref b5, .int (nI n)])), (b1, .inl (G.2.1, 256, .inl (gn ra))), (b2, .inl (G.2.1, 256, .inl (gn so))), (b3, .inl (G.2.1, 256, .inl (gn cx))), (b4, .inl (G.2.1, 256, .inl (gn cy))), (b5, .inl (G.2.1, 256, .inl (gn zs))), (h, .inr (1, [.ref a1, .ref a2, .ref a3, .int (nI pr), .int (nI tx), .int (nI sa), .int (nI fl), .int (nI lo)])), (a1, .inl (G.2.1, 256, .inl (gn ow))), (a2, .inl (G.2.1, 256, .inl (gn he))), (a3, .inl (G.2.1, 8, .inl (gn co)))]) (wr := []) (isC := [0, 1, 2, 3, 4, 5, 6, 7, 8, 9]) (isR := []) rfl rfl (by decide) (by decide) (fun r50 u H locs hp50 hP hD hS => ?_)
      subst hp50
      have hP : va_P G.1 vwCl [(v, .inr (2, [.ref h, .ref b1, .ref b2, .ref b3, .ref b4, .ref b5, .int (nI n)])), (b1, .inl (G.2.1, 256, .inl (gn ra))), (b2, .inl (G.2.1, 256, .inl (gn so))), (b3, .inl (G.2.1, 256, .inl (gn cx))), (b4, .inl (G.2.1, 256, .inl (gn cy))), (b5, .inl (G.2.1, 256, .inl (gn zs))), (h, .inr (1, [.ref a1, .ref a2, .ref a3, .int (nI pr), .int (nI tx), .int (nI sa), .int (nI fl), .int (nI lo)])), (a1, .inl (G.2.1, 256, .inl (gn ow))), (a2, .inl (G.2.1, 256, .inl (gn he))), (a3, .inl (G.2.1, 8, .inl (gn co)))] H := hP
      have hD : va_D A [(v, .inr (2, [.ref h, .ref b1, .ref b2, .ref b3, .ref b4, .ref b5, .int (nI n)])), (b1, .inl (G.2.1, 256, .inl (gn ra))), (b2, .inl (G.2.1, 256, .inl (gn so))), (b3, .inl (G.2.1, 256, .inl (gn cx))), (b4, .inl (G.2.1, 256, .inl (gn cy))), (b5, .inl (G.2.1, 256, .inl (gn zs))), (h, .inr (1, [.ref a1, .ref a2, .ref a3, .int (nI pr), .int (nI tx), .int (nI sa), .int (nI fl), .int (nI lo)])), (a1, .inl (G.2.1, 256, .inl (gn ow))), (a2, .inl (G.2.1, 256, .inl (gn he))), (a3, .inl (G.2.1, 8, .inl (gn co)))] := hD
      refine gIadd (a := sFn ow so cx cy zs o k) (b := frS ow (cx k) (cy k) (zs k) o (zs k)) hx hb dX2_fenceOf_53 ?_
      refine lv_istore_n (lv' := [(2, .int (nI (sFn ow so cx cy zs o k + (frS ow (cx k) (cy k) (zs k) o (zs k))))), (3, .int (nI k)), (0, .ref v), (1, .int (nI o))]) hx hb dX2_fenceOf_54 rfl hl (by decide) rfl (fun ls hl => ?_)
      refine lv_iinc (v := nI (k + 1)) (lv' := [(3, .int (nI (k + 1))), (2, .int (nI (sFn ow so cx cy zs o k + (frS ow (cx k) (cy k) (zs k) o (zs k))))), (0, .ref v), (1, .int (nI o))]) hx hb dX2_fenceOf_55 hl (k := 1) rfl (gInc_p _ rfl) (by decide) rfl (fun ls hl => ?_)
      refine lv_goto (tgt := 4) hx hb dX2_fenceOf_58 (by decide) ?_
      have hl : lv_has ls 4 [(3, .int (nI (k + 1))), (2, .int (nI (sFn ow so cx cy zs o k + (frS ow (cx k) (cy k) (zs k) o (zs k))))), (0, .ref v), (1, .int (nI o))] := lv_sub hl [0, 1, 2, 3] rfl
      have hle : (.int (nI (sFn ow so cx cy zs o k + (frS ow (cx k) (cy k) (zs k) o (zs k)))) : Value) = .int (nI (sFn ow so cx cy zs o (k + 1))) := by congr 2; simp only [sFn]; first | rw [if_pos c26] | (rw [if_neg c26]; rfl)
      rw [hle] at hl
      have hy_2 : (k + 1) ≤ n := by omega
      exact ih4 (k + 1) (by omega) hy_2 H locs hP hD hS ls hl
  have hl : lv_has ls 4 [(3, .int (nI 0)), (2, .int (nI 0)), (0, .ref v), (1, .int (nI o))] := lv_sub hl [0, 1, 2, 3] rfl
  have hle : (.int (nI 0) : Value) = .int (nI (sFn ow so cx cy zs o 0)) := by rfl
  rw [hle] at hl
  have hy_3 : 0 ≤ n := by omega
  exact L4 _ 0 (Nat.lt_succ_self _) hy_3 H locs hP hD hS ls hl

set_option maxHeartbeats 4000000 in
set_option maxRecDepth 100000 in
theorem c_X2_firstLargest (l : Launch) (G : gG) (v : Nat) (b1 : Nat) (b2 : Nat) (b3 : Nat) (b4 : Nat) (b5 : Nat) (h : Nat) (ra : Nat → Nat) (so : Nat → Nat) (cx : Nat → Nat) (cy : Nat → Nat) (zs : Nat → Nat) (n : Nat) (o : Nat) (hn : n ≤ 256) (hso : ∀ k, k < n → so k < 8) (ho : o < 8) (hzs : ∀ k, k < n → zs k ≤ 16) : gMi (S := Unit) l yX2_firstLargest wsX2_firstLargest { frames := 0, cells := 0, slots := 0, locals := 0 } G [.ref v, .int (nI o)] [(v, .inr (2, [.ref h, .ref b1, .ref b2, .ref b3, .ref b4, .ref b5, .int (nI n)])), (b1, .inl (G.2.1, 256, .inl (gn ra))), (b2, .inl (G.2.1, 256, .inl (gn so))), (b3, .inl (G.2.1, 256, .inl (gn cx))), (b4, .inl (G.2.1, 256, .inl (gn cy))), (b5, .inl (G.2.1, 256, .inl (gn zs)))] (fun (r : Int32) (u : Unit) => (r = zI ((fLg so zs o n).1))) (fun u => [(v, .inr (2, [.ref h, .ref b1, .ref b2, .ref b3, .ref b4, .ref b5, .int (nI n)])), (b1, .inl (G.2.1, 256, .inl (gn ra))), (b2, .inl (G.2.1, 256, .inl (gn so))), (b3, .inl (G.2.1, 256, .inl (gn cx))), (b4, .inl (G.2.1, 256, .inl (gn cy))), (b5, .inl (G.2.1, 256, .inl (gn zs)))]) 0 0 := by
  refine gMet_mk (cc := cX2_firstLargest) (nL := 5) (ret := (some .int)) (Qc := fun A => va_Qi (S := Unit) (fun (r : Int32) (u : Unit) => (r = zI ((fLg so zs o n).1))) (gB G A (fun (u : Unit) => [(v, .inr (2, [.ref h, .ref b1, .ref b2, .ref b3, .ref b4, .ref b5, .int (nI n)])), (b1, .inl (G.2.1, 256, .inl (gn ra))), (b2, .inl (G.2.1, 256, .inl (gn so))), (b3, .inl (G.2.1, 256, .inl (gn cx))), (b4, .inl (G.2.1, 256, .inl (gn cy))), (b5, .inl (G.2.1, 256, .inl (gn zs)))])) A) (by decide) rfl (Nat.le_of_ble_eq_true rfl) ?_
  intro p e s m args below meth c A F ls hl hP hD hS
  have hx := F.1
  have hb := F.2.1
  have hts := F.2.2.2.2.2.2.1
  have hown : s.vm.findClass RX2 = some m.cls := F.2.2.2.2.2.1
  have hKK := F.2.2.2.2.2.2.2.2.1
  have hK := hKK.1
  have hin0 := F.2.2.2.2.2.2.2.1
  have hi2 : ∀ w ∈ u_ws RX2 TX2 7, w ∈ wsX2_firstLargest := by decide +kernel
  have hl : lv_has ls 5 [(0, .ref v), (1, .int (nI o))] := hl
  generalize hH : s.heap = H at hP ⊢
  have hS : va_S A s.heap H [] := by rw [← hH]; exact va_S.rf
  generalize hLo : ([] : List Loc) = locs at hS ⊢
  refine lv_iconst (v := zI (-1)) hx hb dX2_firstLargest_0 (by decide) ?_
  refine lv_istore_n (lv' := [(2, .int (zI (-1))), (0, .ref v), (1, .int (nI o))]) hx hb dX2_firstLargest_1 rfl hl (by decide) rfl (fun ls hl => ?_)
  refine lv_iconst (v := nI 0) hx hb dX2_firstLargest_2 (by decide) ?_
  refine lv_istore_n (lv' := [(3, .int (nI 0)), (2, .int (zI (-1))), (0, .ref v), (1, .int (nI o))]) hx hb dX2_firstLargest_3 rfl hl (by decide) rfl (fun ls hl => ?_)
  refine lv_iconst (v := nI 0) hx hb dX2_firstLargest_4 (by decide) ?_
  refine lv_istore (lv' := [(4, .int (nI 0)), (3, .int (nI 0)), (2, .int (zI (-1))), (0, .ref v), (1, .int (nI o))]) hx hb dX2_firstLargest_5 hl (by decide) rfl (fun ls hl => ?_)
  have L7 : ∀ (fuel : Nat) (k : Nat), n - k < fuel → (k ≤ n) → ∀ (H : Heap) (locs : List Loc), va_P G.1 vwCl [(v, .inr (2, [.ref h, .ref b1, .ref b2, .ref b3, .ref b4, .ref b5, .int (nI n)])), (b1, .inl (G.2.1, 256, .inl (gn ra))), (b2, .inl (G.2.1, 256, .inl (gn so))), (b3, .inl (G.2.1, 256, .inl (gn cx))), (b4, .inl (G.2.1, 256, .inl (gn cy))), (b5, .inl (G.2.1, 256, .inl (gn zs)))] H → va_D A [(v, .inr (2, [.ref h, .ref b1, .ref b2, .ref b3, .ref b4, .ref b5, .int (nI n)])), (b1, .inl (G.2.1, 256, .inl (gn ra))), (b2, .inl (G.2.1, 256, .inl (gn so))), (b3, .inl (G.2.1, 256, .inl (gn cx))), (b4, .inl (G.2.1, 256, .inl (gn cy))), (b5, .inl (G.2.1, 256, .inl (gn zs)))] → va_S A s.heap H locs → ∀ (ls : Array Slot), lv_has ls 5 [(4, .int (nI k)), (3, .int (nI ((fLg so zs o k).2))), (2, .int (zI ((fLg so zs o k).1))), (0, .ref v), (1, .int (nI o))] → W p l e ({ frames := 0, cells := 0, slots := 0, locals := 0 } : Room) s m args below meth c H locs 0 0 (MQ below (va_Qi (S := Unit) (fun (r : Int32) (u : Unit) => (r = zI ((fLg so zs o n).1))) (gB G A (fun (u : Unit) => [(v, .inr (2, [.ref h, .ref b1, .ref b2, .ref b3, .ref b4, .ref b5, .int (nI n)])), (b1, .inl (G.2.1, 256, .inl (gn ra))), (b2, .inl (G.2.1, 256, .inl (gn so))), (b3, .inl (G.2.1, 256, .inl (gn cx))), (b4, .inl (G.2.1, 256, .inl (gn cy))), (b5, .inl (G.2.1, 256, .inl (gn zs)))])) A) args s 0 0 A) (F0 m 7 ls []) := by
    intro fuel
    induction fuel with
    | zero => intro k hme; exact absurd hme (Nat.not_lt_zero _)
    | succ fuel ih7 =>
      intro k hme hk H locs hP hD hS ls hl
      refine lv_iload hx hb dX2_firstLargest_7 (lv_at hl 0 rfl) ?_
      refine lv_aload_n hx hb dX2_firstLargest_9 rfl (lv_at hl 3 rfl) ?_
      refine va_get (D := G.1) (ci := 2) (v := .int (nI n)) (C := RX2) (T := TX2) (N := 7) hx hb hts hi2 hown hK hP 0 rfl rfl 6 (by decide) (hts (.fieldLink RX2 34 "LandQuarters$Survey" "plotCount" "I") (by decide +kernel)) (fun _ h9 => h9) rfl dX2_firstLargest_10 ?_
      refine gIcmp_ge (a := k) (b := n) (tgt := 63) hx hb dX2_firstLargest_13 (by decide) (by omega) (by omega) (fun c13 => ?_) (fun c13 => ?_)
      · skip
        refine lv_iload_n hx hb dX2_firstLargest_63 rfl (lv_at hl 2 rfl) ?_
        exact gRi F dX2_firstLargest_64 (rfl) () (by rw [show k = n by omega]) hP hD hS (Nat.le_refl _) (Nat.le_refl _)
      refine lv_iload hx hb dX2_firstLargest_16 (lv_at hl 0 rfl) ?_
      refine lv_sipush (v := nI 256) hx hb dX2_firstLargest_18 (by decide) ?_
      refine gIcmp_ge (a := k) (b := 256) (tgt := 63) hx hb dX2_firstLargest_21 (by decide) (by omega) (by omega) (fun c21 => ?_) (fun c21 => ?_)
      · skip
        exfalso; omega
      refine lv_aload_n hx hb dX2_firstLargest_24 rfl (lv_at hl 3 rfl) ?_
      refine va_get (D := G.1) (ci := 2) (v := .ref b2) (C := RX2) (T := TX2) (N := 7) hx hb hts hi2 hown hK hP 0 rfl rfl 2 (by decide) (hts (.fieldLink RX2 22 "LandQuarters$Survey" "owners" "[I") (by decide +kernel)) (fun _ h9 => h9) rfl dX2_firstLargest_25 ?_
      refine lv_iload hx hb dX2_firstLargest_28 (lv_at hl 0 rfl) ?_
      refine gNald (k := k) hx hb hK hP 2 0 rfl rfl (by omega) (by first | decide | omega) dX2_firstLargest_30 ?_
      refine lv_iload_n hx hb dX2_firstLargest_31 rfl (lv_at hl 4 rfl) ?_
      refine gIcmp_ne (a := so k) (b := o) (tgt := 57) hx hb dX2_firstLargest_32 (by decide) (by have := hso k (by omega); omega) (by omega) (fun c32 => ?_) (fun c32 => ?_)
      · skip
        refine lv_iinc (v := nI (k + 1)) (lv' := [(4, .int (nI (k + 1))), (3, .int (nI ((fLg so zs o k).2))), (2, .int (zI ((fLg so zs o k).1))), (0, .ref v), (1, .int (nI o))]) hx hb dX2_firstLargest_57 hl (k := 0) rfl (gInc_p _ rfl) (by decide) rfl (fun ls hl => ?_)
        refine lv_goto (tgt := 7) hx hb dX2_firstLargest_60 (by decide) ?_
        have hl : lv_has ls 5 [(4, .int (nI (k + 1))), (3, .int (nI ((fLg so zs o k).2))), (2, .int (zI ((fLg so zs o k).1))), (0, .ref v), (1, .int (nI o))] := lv_sub hl [0, 1, 2, 3, 4] rfl
        have hle : (.int (nI ((fLg so zs o k).2)) : Value) = .int (nI ((fLg so zs o (k + 1)).2)) := by simp only [fLg]; first | rw [if_neg (fun hh => c32 hh.1)] | (rw [if_neg (fun hh => by omega)]) | (rw [if_pos ⟨c32, by omega⟩, zI_nat]) | (rw [if_pos ⟨c32, by omega⟩])
        rw [hle] at hl
        have hle : (.int (zI ((fLg so zs o k).1)) : Value) = .int (zI ((fLg so zs o (k + 1)).1)) := by simp only [fLg]; first | rw [if_neg (fun hh => c32 hh.1)] | (rw [if_neg (fun hh => by omega)]) | (rw [if_pos ⟨c32, by omega⟩, zI_nat]) | (rw [if_pos ⟨c32, by omega⟩])
        rw [hle] at hl
        have hy_1 : (k + 1) ≤ n := by omega
        exact ih7 (k + 1) (by omega) hy_1 H locs hP hD hS ls hl
      refine lv_aload_n hx hb dX2_firstLargest_35 rfl (lv_at hl 3 rfl) ?_
      refine va_get (D := G.1) (ci := 2) (v := .ref b5) (C := RX2) (T := TX2) (N := 7) hx hb hts hi2 hown hK hP 0 rfl rfl 5 (by decide) (hts (.fieldLink RX2 31 "LandQuarters$Survey" "sizes" "[I") (by decide +kernel)) (fun _ h9 => h9) rfl dX2_firstLargest_36 ?_
      refine lv_iload hx hb dX2_firstLargest_39 (lv_at hl 0 rfl) ?_
      refine gNald (k := k) hx hb hK hP 5 0 rfl rfl (by omega) (by first | decide | omega) dX2_firstLargest_41 ?_
      refine lv_iload_n hx hb dX2_firstLargest_42 rfl (lv_at hl 1 rfl) ?_
      refine gIcmp_le (a := zs k) (b := (fLg so zs o k).2) (tgt := 57) hx hb dX2_firstLargest_43 (by decide) (by have := hzs k (by omega); omega) (by have := fLg_b so zs o hzs k hk; omega) (fun c43 => ?_) (fun c43 => ?_)
      · skip
        refine lv_iinc (v := nI (k + 1)) (lv' := [(4, .int (nI (k + 1))), (3, .int (nI ((fLg so zs o k).2))), (2, .int (zI ((fLg so zs o k).1))), (0, .ref v), (1, .int (nI o))]) hx hb dX2_firstLargest_57 hl (k := 0) rfl (gInc_p _ rfl) (by decide) rfl (fun ls hl => ?_)
        refine lv_goto (tgt := 7) hx hb dX2_firstLargest_60 (by decide) ?_
        have hl : lv_has ls 5 [(4, .int (nI (k + 1))), (3, .int (nI ((fLg so zs o k).2))), (2, .int (zI ((fLg so zs o k).1))), (0, .ref v), (1, .int (nI o))] := lv_sub hl [0, 1, 2, 3, 4] rfl
        have hle : (.int (nI ((fLg so zs o k).2)) : Value) = .int (nI ((fLg so zs o (k + 1)).2)) := by simp only [fLg]; first | rw [if_neg (fun hh => c32 hh.1)] | (rw [if_neg (fun hh => by omega)]) | (rw [if_pos ⟨c32, by omega⟩, zI_nat]) | (rw [if_pos ⟨c32, by omega⟩])
        rw [hle] at hl
        have hle : (.int (zI ((fLg so zs o k).1)) : Value) = .int (zI ((fLg so zs o (k + 1)).1)) := by simp only [fLg]; first | rw [if_neg (fun hh => c32 hh.1)] | (rw [if_neg (fun hh => by omega)]) | (rw [if_pos ⟨c32, by omega⟩, zI_nat]) | (rw [if_pos ⟨c32, by omega⟩])
        rw [hle] at hl
        have hy_2 : (k + 1) ≤ n := by omega
        exact ih7 (k + 1) (by omega) hy_2 H locs hP hD hS ls hl
      refine lv_aload_n hx hb dX2_firstLargest_46 rfl (lv_at hl 3 rfl) ?_
      refine va_get (D := G.1) (ci := 2) (v := .ref b5) (C := RX2) (T := TX2) (N := 7) hx hb hts hi2 hown hK hP 0 rfl rfl 5 (by decide) (hts (.fieldLink RX2 31 "LandQuarters$Survey" "sizes" "[I") (by decide +kernel)) (fun _ h9 => h9) rfl dX2_firstLargest_47 ?_
      refine lv_iload hx hb dX2_firstLargest_50 (lv_at hl 0 rfl) ?_
      refine gNald (k := k) hx hb hK hP 5 0 rfl rfl (by omega) (by first | decide | omega) dX2_firstLargest_52 ?_
      refine lv_istore_n (lv' := [(3, .int (nI (zs k))), (4, .int (nI k)), (2, .int (zI ((fLg so zs o k).1))), (0, .ref v), (1, .int (nI o))]) hx hb dX2_firstLargest_53 rfl hl (by decide) rfl (fun ls hl => ?_)
      refine lv_iload hx hb dX2_firstLargest_54 (lv_at hl 1 rfl) ?_
      refine lv_istore_n (lv' := [(2, .int (nI k)), (3, .int (nI (zs k))), (4, .int (nI k)), (0, .ref v), (1, .int (nI o))]) hx hb dX2_firstLargest_56 rfl hl (by decide) rfl (fun ls hl => ?_)
      refine lv_iinc (v := nI (k + 1)) (lv' := [(4, .int (nI (k + 1))), (2, .int (nI k)), (3, .int (nI (zs k))), (0, .ref v), (1, .int (nI o))]) hx hb dX2_firstLargest_57 hl (k := 2) rfl (gInc_p _ rfl) (by decide) rfl (fun ls hl => ?_)
      refine lv_goto (tgt := 7) hx hb dX2_firstLargest_60 (by decide) ?_
      have hl : lv_has ls 5 [(4, .int (nI (k + 1))), (3, .int (nI (zs k))), (2, .int (nI k)), (0, .ref v), (1, .int (nI o))] := lv_sub hl [0, 2, 1, 3, 4] rfl
      have hle : (.int (nI (zs k)) : Value) = .int (nI ((fLg so zs o (k + 1)).2)) := by simp only [fLg]; first | rw [if_neg (fun hh => c32 hh.1)] | (rw [if_neg (fun hh => by omega)]) | (rw [if_pos ⟨c32, by omega⟩, zI_nat]) | (rw [if_pos ⟨c32, by omega⟩])
      rw [hle] at hl
      have hle : (.int (nI k) : Value) = .int (zI ((fLg so zs o (k + 1)).1)) := by simp only [fLg]; first | rw [if_neg (fun hh => c32 hh.1)] | (rw [if_neg (fun hh => by omega)]) | (rw [if_pos ⟨c32, by omega⟩, zI_nat]) | (rw [if_pos ⟨c32, by omega⟩])
      rw [hle] at hl
      have hy_3 : (k + 1) ≤ n := by omega
      exact ih7 (k + 1) (by omega) hy_3 H locs hP hD hS ls hl
  have hl : lv_has ls 5 [(4, .int (nI 0)), (3, .int (nI 0)), (2, .int (zI (-1))), (0, .ref v), (1, .int (nI o))] := lv_sub hl [0, 1, 2, 3, 4] rfl
  have hle : (.int (nI 0) : Value) = .int (nI ((fLg so zs o 0).2)) := by first | rfl | exact congrArg Value.int zI_neg1.symm
  rw [hle] at hl
  have hle : (.int (zI (-1)) : Value) = .int (zI ((fLg so zs o 0).1)) := by first | rfl | exact congrArg Value.int zI_neg1.symm
  rw [hle] at hl
  have hy_4 : 0 ≤ n := by omega
  exact L7 _ 0 (Nat.lt_succ_self _) hy_4 H locs hP hD hS ls hl

set_option maxHeartbeats 4000000 in
set_option maxRecDepth 100000 in
theorem c_X2_lastSmallest (l : Launch) (G : gG) (v : Nat) (b1 : Nat) (b2 : Nat) (b3 : Nat) (b4 : Nat) (b5 : Nat) (h : Nat) (ra : Nat → Nat) (so : Nat → Nat) (cx : Nat → Nat) (cy : Nat → Nat) (zs : Nat → Nat) (n : Nat) (o : Nat) (hn : n ≤ 256) (hso : ∀ k, k < n → so k < 8) (ho : o < 8) (hzs : ∀ k, k < n → zs k ≤ 16) : gMi (S := Unit) l yX2_lastSmallest wsX2_lastSmallest { frames := 0, cells := 0, slots := 0, locals := 0 } G [.ref v, .int (nI o)] [(v, .inr (2, [.ref h, .ref b1, .ref b2, .ref b3, .ref b4, .ref b5, .int (nI n)])), (b1, .inl (G.2.1, 256, .inl (gn ra))), (b2, .inl (G.2.1, 256, .inl (gn so))), (b3, .inl (G.2.1, 256, .inl (gn cx))), (b4, .inl (G.2.1, 256, .inl (gn cy))), (b5, .inl (G.2.1, 256, .inl (gn zs)))] (fun (r : Int32) (u : Unit) => (r = zI ((fSm so zs o n).1))) (fun u => [(v, .inr (2, [.ref h, .ref b1, .ref b2, .ref b3, .ref b4, .ref b5, .int (nI n)])), (b1, .inl (G.2.1, 256, .inl (gn ra))), (b2, .inl (G.2.1, 256, .inl (gn so))), (b3, .inl (G.2.1, 256, .inl (gn cx))), (b4, .inl (G.2.1, 256, .inl (gn cy))), (b5, .inl (G.2.1, 256, .inl (gn zs)))]) 0 0 := by
  refine gMet_mk (cc := cX2_lastSmallest) (nL := 5) (ret := (some .int)) (Qc := fun A => va_Qi (S := Unit) (fun (r : Int32) (u : Unit) => (r = zI ((fSm so zs o n).1))) (gB G A (fun (u : Unit) => [(v, .inr (2, [.ref h, .ref b1, .ref b2, .ref b3, .ref b4, .ref b5, .int (nI n)])), (b1, .inl (G.2.1, 256, .inl (gn ra))), (b2, .inl (G.2.1, 256, .inl (gn so))), (b3, .inl (G.2.1, 256, .inl (gn cx))), (b4, .inl (G.2.1, 256, .inl (gn cy))), (b5, .inl (G.2.1, 256, .inl (gn zs)))])) A) (by decide) rfl (Nat.le_of_ble_eq_true rfl) ?_
  intro p e s m args below meth c A F ls hl hP hD hS
  have hx := F.1
  have hb := F.2.1
  have hts := F.2.2.2.2.2.2.1
  have hown : s.vm.findClass RX2 = some m.cls := F.2.2.2.2.2.1
  have hKK := F.2.2.2.2.2.2.2.2.1
  have hK := hKK.1
  have hin0 := F.2.2.2.2.2.2.2.1
  have hi2 : ∀ w ∈ u_ws RX2 TX2 7, w ∈ wsX2_lastSmallest := by decide +kernel
  have hl : lv_has ls 5 [(0, .ref v), (1, .int (nI o))] := hl
  generalize hH : s.heap = H at hP ⊢
  have hS : va_S A s.heap H [] := by rw [← hH]; exact va_S.rf
  generalize hLo : ([] : List Loc) = locs at hS ⊢
  refine lv_iconst (v := zI (-1)) hx hb dX2_lastSmallest_0 (by decide) ?_
  refine lv_istore_n (lv' := [(2, .int (zI (-1))), (0, .ref v), (1, .int (nI o))]) hx hb dX2_lastSmallest_1 rfl hl (by decide) rfl (fun ls hl => ?_)
  refine lv_bipush (v := nI 16) hx hb dX2_lastSmallest_2 (by decide) ?_
  refine lv_istore_n (lv' := [(3, .int (nI 16)), (2, .int (zI (-1))), (0, .ref v), (1, .int (nI o))]) hx hb dX2_lastSmallest_4 rfl hl (by decide) rfl (fun ls hl => ?_)
  refine lv_iconst (v := nI 0) hx hb dX2_lastSmallest_5 (by decide) ?_
  refine lv_istore (lv' := [(4, .int (nI 0)), (3, .int (nI 16)), (2, .int (zI (-1))), (0, .ref v), (1, .int (nI o))]) hx hb dX2_lastSmallest_6 hl (by decide) rfl (fun ls hl => ?_)
  have L8 : ∀ (fuel : Nat) (k : Nat), n - k < fuel → (k ≤ n) → ∀ (H : Heap) (locs : List Loc), va_P G.1 vwCl [(v, .inr (2, [.ref h, .ref b1, .ref b2, .ref b3, .ref b4, .ref b5, .int (nI n)])), (b1, .inl (G.2.1, 256, .inl (gn ra))), (b2, .inl (G.2.1, 256, .inl (gn so))), (b3, .inl (G.2.1, 256, .inl (gn cx))), (b4, .inl (G.2.1, 256, .inl (gn cy))), (b5, .inl (G.2.1, 256, .inl (gn zs)))] H → va_D A [(v, .inr (2, [.ref h, .ref b1, .ref b2, .ref b3, .ref b4, .ref b5, .int (nI n)])), (b1, .inl (G.2.1, 256, .inl (gn ra))), (b2, .inl (G.2.1, 256, .inl (gn so))), (b3, .inl (G.2.1, 256, .inl (gn cx))), (b4, .inl (G.2.1, 256, .inl (gn cy))), (b5, .inl (G.2.1, 256, .inl (gn zs)))] → va_S A s.heap H locs → ∀ (ls : Array Slot), lv_has ls 5 [(4, .int (nI k)), (3, .int (nI ((fSm so zs o k).2))), (2, .int (zI ((fSm so zs o k).1))), (0, .ref v), (1, .int (nI o))] → W p l e ({ frames := 0, cells := 0, slots := 0, locals := 0 } : Room) s m args below meth c H locs 0 0 (MQ below (va_Qi (S := Unit) (fun (r : Int32) (u : Unit) => (r = zI ((fSm so zs o n).1))) (gB G A (fun (u : Unit) => [(v, .inr (2, [.ref h, .ref b1, .ref b2, .ref b3, .ref b4, .ref b5, .int (nI n)])), (b1, .inl (G.2.1, 256, .inl (gn ra))), (b2, .inl (G.2.1, 256, .inl (gn so))), (b3, .inl (G.2.1, 256, .inl (gn cx))), (b4, .inl (G.2.1, 256, .inl (gn cy))), (b5, .inl (G.2.1, 256, .inl (gn zs)))])) A) args s 0 0 A) (F0 m 8 ls []) := by
    intro fuel
    induction fuel with
    | zero => intro k hme; exact absurd hme (Nat.not_lt_zero _)
    | succ fuel ih8 =>
      intro k hme hk H locs hP hD hS ls hl
      refine lv_iload hx hb dX2_lastSmallest_8 (lv_at hl 0 rfl) ?_
      refine lv_aload_n hx hb dX2_lastSmallest_10 rfl (lv_at hl 3 rfl) ?_
      refine va_get (D := G.1) (ci := 2) (v := .int (nI n)) (C := RX2) (T := TX2) (N := 7) hx hb hts hi2 hown hK hP 0 rfl rfl 6 (by decide) (hts (.fieldLink RX2 34 "LandQuarters$Survey" "plotCount" "I") (by decide +kernel)) (fun _ h9 => h9) rfl dX2_lastSmallest_11 ?_
      refine gIcmp_ge (a := k) (b := n) (tgt := 64) hx hb dX2_lastSmallest_14 (by decide) (by omega) (by omega) (fun c14 => ?_) (fun c14 => ?_)
      · skip
        refine lv_iload_n hx hb dX2_lastSmallest_64 rfl (lv_at hl 2 rfl) ?_
        exact gRi F dX2_lastSmallest_65 (rfl) () (by rw [show k = n by omega]) hP hD hS (Nat.le_refl _) (Nat.le_refl _)
      refine lv_iload hx hb dX2_lastSmallest_17 (lv_at hl 0 rfl) ?_
      refine lv_sipush (v := nI 256) hx hb dX2_lastSmallest_19 (by decide) ?_
      refine gIcmp_ge (a := k) (b := 256) (tgt := 64) hx hb dX2_lastSmallest_22 (by decide) (by omega) (by omega) (fun c22 => ?_) (fun c22 => ?_)
      · skip
        exfalso; omega
      refine lv_aload_n hx hb dX2_lastSmallest_25 rfl (lv_at hl 3 rfl) ?_
      refine va_get (D := G.1) (ci := 2) (v := .ref b2) (C := RX2) (T := TX2) (N := 7) hx hb hts hi2 hown hK hP 0 rfl rfl 2 (by decide) (hts (.fieldLink RX2 22 "LandQuarters$Survey" "owners" "[I") (by decide +kernel)) (fun _ h9 => h9) rfl dX2_lastSmallest_26 ?_
      refine lv_iload hx hb dX2_lastSmallest_29 (lv_at hl 0 rfl) ?_
      refine gNald (k := k) hx hb hK hP 2 0 rfl rfl (by omega) (by first | decide | omega) dX2_lastSmallest_31 ?_
      refine lv_iload_n hx hb dX2_lastSmallest_32 rfl (lv_at hl 4 rfl) ?_
      refine gIcmp_ne (a := so k) (b := o) (tgt := 58) hx hb dX2_lastSmallest_33 (by decide) (by have := hso k (by omega); omega) (by omega) (fun c33 => ?_) (fun c33 => ?_)
      · skip
        refine lv_iinc (v := nI (k + 1)) (lv' := [(4, .int (nI (k + 1))), (3, .int (nI ((fSm so zs o k).2))), (2, .int (zI ((fSm so zs o k).1))), (0, .ref v), (1, .int (nI o))]) hx hb dX2_lastSmallest_58 hl (k := 0) rfl (gInc_p _ rfl) (by decide) rfl (fun ls hl => ?_)
        refine lv_goto (tgt := 8) hx hb dX2_lastSmallest_61 (by decide) ?_
        have hl : lv_has ls 5 [(4, .int (nI (k + 1))), (3, .int (nI ((fSm so zs o k).2))), (2, .int (zI ((fSm so zs o k).1))), (0, .ref v), (1, .int (nI o))] := lv_sub hl [0, 1, 2, 3, 4] rfl
        have hle : (.int (nI ((fSm so zs o k).2)) : Value) = .int (nI ((fSm so zs o (k + 1)).2)) := by simp only [fSm]; first | rw [if_neg (fun hh => c33 hh.1)] | (rw [if_neg (fun hh => by omega)]) | (rw [if_pos ⟨c33, by omega⟩, zI_nat]) | (rw [if_pos ⟨c33, by omega⟩])
        rw [hle] at hl
        have hle : (.int (zI ((fSm so zs o k).1)) : Value) = .int (zI ((fSm so zs o (k + 1)).1)) := by simp only [fSm]; first | rw [if_neg (fun hh => c33 hh.1)] | (rw [if_neg (fun hh => by omega)]) | (rw [if_pos ⟨c33, by omega⟩, zI_nat]) | (rw [if_pos ⟨c33, by omega⟩])
        rw [hle] at hl
        have hy_1 : (k + 1) ≤ n := by omega
        exact ih8 (k + 1) (by omega) hy_1 H locs hP hD hS ls hl
      refine lv_aload_n hx hb dX2_lastSmallest_36 rfl (lv_at hl 3 rfl) ?_
      refine va_get (D := G.1) (ci := 2) (v := .ref b5) (C := RX2) (T := TX2) (N := 7) hx hb hts hi2 hown hK hP 0 rfl rfl 5 (by decide) (hts (.fieldLink RX2 31 "LandQuarters$Survey" "sizes" "[I") (by decide +kernel)) (fun _ h9 => h9) rfl dX2_lastSmallest_37 ?_
      refine lv_iload hx hb dX2_lastSmallest_40 (lv_at hl 0 rfl) ?_
      refine gNald (k := k) hx hb hK hP 5 0 rfl rfl (by omega) (by first | decide | omega) dX2_lastSmallest_42 ?_
      refine lv_iload_n hx hb dX2_lastSmallest_43 rfl (lv_at hl 1 rfl) ?_
      refine gIcmp_gt (a := zs k) (b := (fSm so zs o k).2) (tgt := 58) hx hb dX2_lastSmallest_44 (by decide) (by have := hzs k (by omega); omega) (by have := fSm_b so zs o hzs k hk; omega) (fun c44 => ?_) (fun c44 => ?_)
      · skip
        refine lv_iinc (v := nI (k + 1)) (lv' := [(4, .int (nI (k + 1))), (3, .int (nI ((fSm so zs o k).2))), (2, .int (zI ((fSm so zs o k).1))), (0, .ref v), (1, .int (nI o))]) hx hb dX2_lastSmallest_58 hl (k := 0) rfl (gInc_p _ rfl) (by decide) rfl (fun ls hl => ?_)
        refine lv_goto (tgt := 8) hx hb dX2_lastSmallest_61 (by decide) ?_
        have hl : lv_has ls 5 [(4, .int (nI (k + 1))), (3, .int (nI ((fSm so zs o k).2))), (2, .int (zI ((fSm so zs o k).1))), (0, .ref v), (1, .int (nI o))] := lv_sub hl [0, 1, 2, 3, 4] rfl
        have hle : (.int (nI ((fSm so zs o k).2)) : Value) = .int (nI ((fSm so zs o (k + 1)).2)) := by simp only [fSm]; first | rw [if_neg (fun hh => c33 hh.1)] | (rw [if_neg (fun hh => by omega)]) | (rw [if_pos ⟨c33, by omega⟩, zI_nat]) | (rw [if_pos ⟨c33, by omega⟩])
        rw [hle] at hl
        have hle : (.int (zI ((fSm so zs o k).1)) : Value) = .int (zI ((fSm so zs o (k + 1)).1)) := by simp only [fSm]; first | rw [if_neg (fun hh => c33 hh.1)] | (rw [if_neg (fun hh => by omega)]) | (rw [if_pos ⟨c33, by omega⟩, zI_nat]) | (rw [if_pos ⟨c33, by omega⟩])
        rw [hle] at hl
        have hy_2 : (k + 1) ≤ n := by omega
        exact ih8 (k + 1) (by omega) hy_2 H locs hP hD hS ls hl
      refine lv_aload_n hx hb dX2_lastSmallest_47 rfl (lv_at hl 3 rfl) ?_
      refine va_get (D := G.1) (ci := 2) (v := .ref b5) (C := RX2) (T := TX2) (N := 7) hx hb hts hi2 hown hK hP 0 rfl rfl 5 (by decide) (hts (.fieldLink RX2 31 "LandQuarters$Survey" "sizes" "[I") (by decide +kernel)) (fun _ h9 => h9) rfl dX2_lastSmallest_48 ?_
      refine lv_iload hx hb dX2_lastSmallest_51 (lv_at hl 0 rfl) ?_
      refine gNald (k := k) hx hb hK hP 5 0 rfl rfl (by omega) (by first | decide | omega) dX2_lastSmallest_53 ?_
      refine lv_istore_n (lv' := [(3, .int (nI (zs k))), (4, .int (nI k)), (2, .int (zI ((fSm so zs o k).1))), (0, .ref v), (1, .int (nI o))]) hx hb dX2_lastSmallest_54 rfl hl (by decide) rfl (fun ls hl => ?_)
      refine lv_iload hx hb dX2_lastSmallest_55 (lv_at hl 1 rfl) ?_
      refine lv_istore_n (lv' := [(2, .int (nI k)), (3, .int (nI (zs k))), (4, .int (nI k)), (0, .ref v), (1, .int (nI o))]) hx hb dX2_lastSmallest_57 rfl hl (by decide) rfl (fun ls hl => ?_)
      refine lv_iinc (v := nI (k + 1)) (lv' := [(4, .int (nI (k + 1))), (2, .int (nI k)), (3, .int (nI (zs k))), (0, .ref v), (1, .int (nI o))]) hx hb dX2_lastSmallest_58 hl (k := 2) rfl (gInc_p _ rfl) (by decide) rfl (fun ls hl => ?_)
      refine lv_goto (tgt := 8) hx hb dX2_lastSmallest_61 (by decide) ?_
      have hl : lv_has ls 5 [(4, .int (nI (k + 1))), (3, .int (nI (zs k))), (2, .int (nI k)), (0, .ref v), (1, .int (nI o))] := lv_sub hl [0, 2, 1, 3, 4] rfl
      have hle : (.int (nI (zs k)) : Value) = .int (nI ((fSm so zs o (k + 1)).2)) := by simp only [fSm]; first | rw [if_neg (fun hh => c33 hh.1)] | (rw [if_neg (fun hh => by omega)]) | (rw [if_pos ⟨c33, by omega⟩, zI_nat]) | (rw [if_pos ⟨c33, by omega⟩])
      rw [hle] at hl
      have hle : (.int (nI k) : Value) = .int (zI ((fSm so zs o (k + 1)).1)) := by simp only [fSm]; first | rw [if_neg (fun hh => c33 hh.1)] | (rw [if_neg (fun hh => by omega)]) | (rw [if_pos ⟨c33, by omega⟩, zI_nat]) | (rw [if_pos ⟨c33, by omega⟩])
      rw [hle] at hl
      have hy_3 : (k + 1) ≤ n := by omega
      exact ih8 (k + 1) (by omega) hy_3 H locs hP hD hS ls hl
  have hl : lv_has ls 5 [(4, .int (nI 0)), (3, .int (nI 16)), (2, .int (zI (-1))), (0, .ref v), (1, .int (nI o))] := lv_sub hl [0, 1, 2, 3, 4] rfl
  have hle : (.int (nI 16) : Value) = .int (nI ((fSm so zs o 0).2)) := by first | rfl | exact congrArg Value.int zI_neg1.symm
  rw [hle] at hl
  have hle : (.int (zI (-1)) : Value) = .int (zI ((fSm so zs o 0).1)) := by first | rfl | exact congrArg Value.int zI_neg1.symm
  rw [hle] at hl
  have hy_4 : 0 ≤ n := by omega
  exact L8 _ 0 (Nat.lt_succ_self _) hy_4 H locs hP hD hS ls hl

set_option maxHeartbeats 4000000 in
set_option maxRecDepth 100000 in
theorem c_X2_init (l : Launch) (G : gG) (v : Nat) : gMv (S := (Nat) × (Nat) × (Nat) × (Nat) × (Nat) × (Nat) × (Nat) × (Nat) × (Nat) × (Nat → Nat) × (Nat → Nat) × (Nat → Nat) × (Nat → Nat)) l yX2_init wsX2_init { frames := 4, cells := 9, slots := 1808, locals := 97 } G [.ref v] [(v, .inr (2, [.null, .null, .null, .null, .null, .null, .int (nI 0)]))] (fun (u : (Nat) × (Nat) × (Nat) × (Nat) × (Nat) × (Nat) × (Nat) × (Nat) × (Nat) × (Nat → Nat) × (Nat → Nat) × (Nat → Nat) × (Nat → Nat)) => (svOK (fun _ => 0) u.2.2.2.2.2.2.2.2.2.1 u.2.2.2.2.2.2.2.2.2.2.1 u.2.2.2.2.2.2.2.2.2.2.2.1 u.2.2.2.2.2.2.2.2.2.2.2.2 (cnt (fun _ => 0)))) (fun u => [(v, .inr (2, [.ref u.1, .ref u.2.2.2.2.1, .ref u.2.2.2.2.2.1, .ref u.2.2.2.2.2.2.1, .ref u.2.2.2.2.2.2.2.1, .ref u.2.2.2.2.2.2.2.2.1, .int (nI (cnt (fun _ => 0)))])), (u.2.2.2.2.1, .inl (G.2.1, 256, .inl (gn (fun c => rk (fun _ => 0) (mp c))))), (u.2.2.2.2.2.1, .inl (G.2.1, 256, .inl (gn u.2.2.2.2.2.2.2.2.2.1))), (u.2.2.2.2.2.2.1, .inl (G.2.1, 256, .inl (gn u.2.2.2.2.2.2.2.2.2.2.1))), (u.2.2.2.2.2.2.2.1, .inl (G.2.1, 256, .inl (gn u.2.2.2.2.2.2.2.2.2.2.2.1))), (u.2.2.2.2.2.2.2.2.1, .inl (G.2.1, 256, .inl (gn u.2.2.2.2.2.2.2.2.2.2.2.2))), (u.1, .inr (1, [.ref u.2.1, .ref u.2.2.1, .ref u.2.2.2.1, .int (nI 2), .int (nI 1), .int (nI 0), .int (nI 0), .int (nI 0)])), (u.2.1, .inl (G.2.1, 256, .inl (gn (fun _ => 0)))), (u.2.2.1, .inl (G.2.1, 256, .inl (gn (fun _ => 5)))), (u.2.2.2.1, .inl (G.2.1, 8, .inl (gn (fun k => if k = 0 then 0 else 100))))]) 9 1808 := by
  refine gMet_mk (cc := cX2_init) (nL := 1) (ret := none) (Qc := fun A => va_Qv (S := (Nat) × (Nat) × (Nat) × (Nat) × (Nat) × (Nat) × (Nat) × (Nat) × (Nat) × (Nat → Nat) × (Nat → Nat) × (Nat → Nat) × (Nat → Nat)) (fun (u : (Nat) × (Nat) × (Nat) × (Nat) × (Nat) × (Nat) × (Nat) × (Nat) × (Nat) × (Nat → Nat) × (Nat → Nat) × (Nat → Nat) × (Nat → Nat)) => (svOK (fun _ => 0) u.2.2.2.2.2.2.2.2.2.1 u.2.2.2.2.2.2.2.2.2.2.1 u.2.2.2.2.2.2.2.2.2.2.2.1 u.2.2.2.2.2.2.2.2.2.2.2.2 (cnt (fun _ => 0)))) (gB G A (fun (u : (Nat) × (Nat) × (Nat) × (Nat) × (Nat) × (Nat) × (Nat) × (Nat) × (Nat) × (Nat → Nat) × (Nat → Nat) × (Nat → Nat) × (Nat → Nat)) => [(v, .inr (2, [.ref u.1, .ref u.2.2.2.2.1, .ref u.2.2.2.2.2.1, .ref u.2.2.2.2.2.2.1, .ref u.2.2.2.2.2.2.2.1, .ref u.2.2.2.2.2.2.2.2.1, .int (nI (cnt (fun _ => 0)))])), (u.2.2.2.2.1, .inl (G.2.1, 256, .inl (gn (fun c => rk (fun _ => 0) (mp c))))), (u.2.2.2.2.2.1, .inl (G.2.1, 256, .inl (gn u.2.2.2.2.2.2.2.2.2.1))), (u.2.2.2.2.2.2.1, .inl (G.2.1, 256, .inl (gn u.2.2.2.2.2.2.2.2.2.2.1))), (u.2.2.2.2.2.2.2.1, .inl (G.2.1, 256, .inl (gn u.2.2.2.2.2.2.2.2.2.2.2.1))), (u.2.2.2.2.2.2.2.2.1, .inl (G.2.1, 256, .inl (gn u.2.2.2.2.2.2.2.2.2.2.2.2))), (u.1, .inr (1, [.ref u.2.1, .ref u.2.2.1, .ref u.2.2.2.1, .int (nI 2), .int (nI 1), .int (nI 0), .int (nI 0), .int (nI 0)])), (u.2.1, .inl (G.2.1, 256, .inl (gn (fun _ => 0)))), (u.2.2.1, .inl (G.2.1, 256, .inl (gn (fun _ => 5)))), (u.2.2.2.1, .inl (G.2.1, 8, .inl (gn (fun k => if k = 0 then 0 else 100))))])) A) (by decide) rfl (Nat.le_of_ble_eq_true rfl) ?_
  intro p e s m args below meth c A F ls hl hP hD hS
  have hx := F.1
  have hb := F.2.1
  have hts := F.2.2.2.2.2.2.1
  have hown : s.vm.findClass RX2 = some m.cls := F.2.2.2.2.2.1
  have hKK := F.2.2.2.2.2.2.2.2.1
  have hK := hKK.1
  have hin0 := F.2.2.2.2.2.2.2.1
  have hi1 : ∀ w ∈ u_ws RX1 TX1 8, w ∈ wsX2_init := by decide +kernel
  have hi2 : ∀ w ∈ u_ws RX2 TX2 7, w ∈ wsX2_init := by decide +kernel
  have hl : lv_has ls 1 [(0, .ref v)] := hl
  generalize hH : s.heap = H at hP ⊢
  have hS : va_S A s.heap H [] := by rw [← hH]; exact va_S.rf
  generalize hLo : ([] : List Loc) = locs at hS ⊢
  refine lv_aload_n hx hb dX2_init_0 rfl (lv_at hl 0 rfl) ?_
  refine W.objInit hx hb hown (hts (.methodLink RX2 3 objectInit) (by decide +kernel)) (hts (.instanceMethod objectInit) (by decide +kernel)) (hts (.code objectInit ⟨#[0xb1]⟩ 1 none) (by decide +kernel)) rfl (by rw [F.2.2.1]; exact hl.1) rfl dX2_init_1 (Nat.le_of_ble_eq_true rfl) (Nat.le_of_ble_eq_true rfl) ?_
  refine W.eq (g2 := F0 m 4 ls []) rfl ?_
  refine lv_aload_n hx hb dX2_init_4 rfl (lv_at hl 0 rfl) ?_
  refine va_new (ci := 1) (fs := [.null, .null, .null, .int (nI 0), .int (nI 0), .int (nI 0), .int (nI 0), .int (nI 0)]) (C := RX1) (T := TX1) (N := 8) hx hb hts hi1 tyX1 tyX1_ok hown (hts (.classLink RX2 9 RX1) (by decide +kernel)) (hts (.instantiable RX1 8) (by decide +kernel)) (hts (.initialized RX1) (by decide +kernel)) hK hP hD hS F.2.2.2.2.2.2.2.2.2 rfl (gDef1) (Nat.le_of_ble_eq_true rfl) (Nat.le_of_ble_eq_true rfl) dX2_init_5 (fun q_1 H hP hD hS => ?_)
  have hP : va_P G.1 vwCl [(v, .inr (2, [.null, .null, .null, .null, .null, .null, .int (nI 0)])), (q_1, .inr (1, [.null, .null, .null, .int (nI 0), .int (nI 0), .int (nI 0), .int (nI 0), .int (nI 0)]))] H := hP
  have hD : va_D A [(v, .inr (2, [.null, .null, .null, .null, .null, .null, .int (nI 0)])), (q_1, .inr (1, [.null, .null, .null, .int (nI 0), .int (nI 0), .int (nI 0), .int (nI 0), .int (nI 0)]))] := hD
  refine lv_dup hx hb dX2_init_8 rfl ?_
  refine gCv F (gRunI (own := RX2) (bytes := cX1_init) (n := 0) (As := []) (rest := [.ref q_1, .ref v]) F (c_X1_init l G q_1  H.size) ggX2_init_X1_init (by decide +kernel) (by decide +kernel) (by decide +kernel) rfl rfl rfl rfl rfl (by decide +kernel) rfl ⟨Nat.le_of_ble_eq_true rfl, Nat.le_of_ble_eq_true rfl⟩ hP hD (lit := [(v, .inr (2, [.null, .null, .null, .null, .null, .null, .int (nI 0)])), (q_1, .inr (1, [.null, .null, .null, .int (nI 0), .int (nI 0), .int (nI 0), .int (nI 0), .int (nI 0)]))]) (wt := []) (wc := [(q_1, .inr (1, [.null, .null, .null, .int (nI 0), .int (nI 0), .int (nI 0), .int (nI 0), .int (nI 0)]))]) (isC := [1]) rfl (by decide) rfl hl.1 (Nat.le_of_ble_eq_true rfl) dX2_init_9 ⟨Nat.le_of_ble_eq_true rfl, Nat.le_of_ble_eq_true rfl⟩) hP hD hS (lit := [(v, .inr (2, [.null, .null, .null, .null, .null, .null, .int (nI 0)])), (q_1, .inr (1, [.null, .null, .null, .int (nI 0), .int (nI 0), .int (nI 0), .int (nI 0), .int (nI 0)]))]) (wt := []) (wc := [(q_1, .inr (1, [.null, .null, .null, .int (nI 0), .int (nI 0), .int (nI 0), .int (nI 0), .int (nI 0)]))]) (wr := [(v, .inr (2, [.null, .null, .null, .null, .null, .null, .int (nI 0)]))]) (isC := [1]) (isR := [0]) rfl rfl (by decide) (by decide) (fun u H locs hp9 hP hD hS => ?_)
  obtain ⟨a1__2, a2__3, a3__4⟩ := u
  try dsimp only at hp9
  have hP : va_P G.1 vwCl [(v, .inr (2, [.null, .null, .null, .null, .null, .null, .int (nI 0)])), (q_1, .inr (1, [.ref a1__2, .ref a2__3, .ref a3__4, .int (nI 2), .int (nI 1), .int (nI 0), .int (nI 0), .int (nI 0)])), (a1__2, .inl (G.2.1, 256, .inl (gn (fun _ => 0)))), (a2__3, .inl (G.2.1, 256, .inl (gn (fun _ => 5)))), (a3__4, .inl (G.2.1, 8, .inl (gn (fun k => if k = 0 then 0 else 100))))] H := hP
  have hD : va_D A [(v, .inr (2, [.null, .null, .null, .null, .null, .null, .int (nI 0)])), (q_1, .inr (1, [.ref a1__2, .ref a2__3, .ref a3__4, .int (nI 2), .int (nI 1), .int (nI 0), .int (nI 0), .int (nI 0)])), (a1__2, .inl (G.2.1, 256, .inl (gn (fun _ => 0)))), (a2__3, .inl (G.2.1, 256, .inl (gn (fun _ => 5)))), (a3__4, .inl (G.2.1, 8, .inl (gn (fun k => if k = 0 then 0 else 100))))] := hD
  refine va_putF (D := G.1) (ci := 2) (v := .ref q_1) (ty := .object "LandQuarters$Land") (C := RX2) (T := TX2) (N := 7) hx hb hts hi2 tyX2 tyX2_ok nmX2 hown hK hP hD hS 0 rfl rfl 0 (by decide) (hts (.fieldLink RX2 12 "LandQuarters$Survey" "land" "LLandQuarters$Land;") (by decide +kernel)) (fun _ h9 => h9) rfl hin0 rfl (by decide +kernel) (rfl) (rfl) (Nat.le_of_ble_eq_true rfl) dX2_init_12 (fun H locs hP hD hS => ?_)
  have hP : va_P G.1 vwCl [(v, .inr (2, [.ref q_1, .null, .null, .null, .null, .null, .int (nI 0)])), (q_1, .inr (1, [.ref a1__2, .ref a2__3, .ref a3__4, .int (nI 2), .int (nI 1), .int (nI 0), .int (nI 0), .int (nI 0)])), (a1__2, .inl (G.2.1, 256, .inl (gn (fun _ => 0)))), (a2__3, .inl (G.2.1, 256, .inl (gn (fun _ => 5)))), (a3__4, .inl (G.2.1, 8, .inl (gn (fun k => if k = 0 then 0 else 100))))] H := hP
  have hD : va_D A [(v, .inr (2, [.ref q_1, .null, .null, .null, .null, .null, .int (nI 0)])), (q_1, .inr (1, [.ref a1__2, .ref a2__3, .ref a3__4, .int (nI 2), .int (nI 1), .int (nI 0), .int (nI 0), .int (nI 0)])), (a1__2, .inl (G.2.1, 256, .inl (gn (fun _ => 0)))), (a2__3, .inl (G.2.1, 256, .inl (gn (fun _ => 5)))), (a3__4, .inl (G.2.1, 8, .inl (gn (fun k => if k = 0 then 0 else 100))))] := hD
  refine lv_aload_n hx hb dX2_init_15 rfl (lv_at hl 0 rfl) ?_
  refine lv_sipush (v := nI 256) hx hb dX2_init_16 (by decide) ?_
  refine gNewI F (by decide +kernel) hP hD hS (by decide) (Nat.le_of_ble_eq_true rfl) (Nat.le_of_ble_eq_true rfl) dX2_init_19 (fun q_5 H hP hD hS => ?_)
  have hP : va_P G.1 vwCl [(v, .inr (2, [.ref q_1, .null, .null, .null, .null, .null, .int (nI 0)])), (q_1, .inr (1, [.ref a1__2, .ref a2__3, .ref a3__4, .int (nI 2), .int (nI 1), .int (nI 0), .int (nI 0), .int (nI 0)])), (a1__2, .inl (G.2.1, 256, .inl (gn (fun _ => 0)))), (a2__3, .inl (G.2.1, 256, .inl (gn (fun _ => 5)))), (a3__4, .inl (G.2.1, 8, .inl (gn (fun k => if k = 0 then 0 else 100)))), (q_5, .inl (G.2.1, 256, .inl (gn (fun _ => 0))))] H := hP
  have hD : va_D A [(v, .inr (2, [.ref q_1, .null, .null, .null, .null, .null, .int (nI 0)])), (q_1, .inr (1, [.ref a1__2, .ref a2__3, .ref a3__4, .int (nI 2), .int (nI 1), .int (nI 0), .int (nI 0), .int (nI 0)])), (a1__2, .inl (G.2.1, 256, .inl (gn (fun _ => 0)))), (a2__3, .inl (G.2.1, 256, .inl (gn (fun _ => 5)))), (a3__4, .inl (G.2.1, 8, .inl (gn (fun k => if k = 0 then 0 else 100)))), (q_5, .inl (G.2.1, 256, .inl (gn (fun _ => 0))))] := hD
  refine va_putF (D := G.1) (ci := 2) (v := .ref q_5) (ty := .array .int) (C := RX2) (T := TX2) (N := 7) hx hb hts hi2 tyX2 tyX2_ok nmX2 hown hK hP hD hS 0 rfl rfl 1 (by decide) (hts (.fieldLink RX2 18 "LandQuarters$Survey" "ranks" "[I") (by decide +kernel)) (fun _ h9 => h9) rfl hin0 rfl (by decide +kernel) (rfl) (rfl) (Nat.le_of_ble_eq_true rfl) dX2_init_21 (fun H locs hP hD hS => ?_)
  have hP : va_P G.1 vwCl [(v, .inr (2, [.ref q_1, .ref q_5, .null, .null, .null, .null, .int (nI 0)])), (q_1, .inr (1, [.ref a1__2, .ref a2__3, .ref a3__4, .int (nI 2), .int (nI 1), .int (nI 0), .int (nI 0), .int (nI 0)])), (a1__2, .inl (G.2.1, 256, .inl (gn (fun _ => 0)))), (a2__3, .inl (G.2.1, 256, .inl (gn (fun _ => 5)))), (a3__4, .inl (G.2.1, 8, .inl (gn (fun k => if k = 0 then 0 else 100)))), (q_5, .inl (G.2.1, 256, .inl (gn (fun _ => 0))))] H := hP
  have hD : va_D A [(v, .inr (2, [.ref q_1, .ref q_5, .null, .null, .null, .null, .int (nI 0)])), (q_1, .inr (1, [.ref a1__2, .ref a2__3, .ref a3__4, .int (nI 2), .int (nI 1), .int (nI 0), .int (nI 0), .int (nI 0)])), (a1__2, .inl (G.2.1, 256, .inl (gn (fun _ => 0)))), (a2__3, .inl (G.2.1, 256, .inl (gn (fun _ => 5)))), (a3__4, .inl (G.2.1, 8, .inl (gn (fun k => if k = 0 then 0 else 100)))), (q_5, .inl (G.2.1, 256, .inl (gn (fun _ => 0))))] := hD
  refine lv_aload_n hx hb dX2_init_24 rfl (lv_at hl 0 rfl) ?_
  refine lv_sipush (v := nI 256) hx hb dX2_init_25 (by decide) ?_
  refine gNewI F (by decide +kernel) hP hD hS (by decide) (Nat.le_of_ble_eq_true rfl) (Nat.le_of_ble_eq_true rfl) dX2_init_28 (fun q_6 H hP hD hS => ?_)
  have hP : va_P G.1 vwCl [(v, .inr (2, [.ref q_1, .ref q_5, .null, .null, .null, .null, .int (nI 0)])), (q_1, .inr (1, [.ref a1__2, .ref a2__3, .ref a3__4, .int (nI 2), .int (nI 1), .int (nI 0), .int (nI 0), .int (nI 0)])), (a1__2, .inl (G.2.1, 256, .inl (gn (fun _ => 0)))), (a2__3, .inl (G.2.1, 256, .inl (gn (fun _ => 5)))), (a3__4, .inl (G.2.1, 8, .inl (gn (fun k => if k = 0 then 0 else 100)))), (q_5, .inl (G.2.1, 256, .inl (gn (fun _ => 0)))), (q_6, .inl (G.2.1, 256, .inl (gn (fun _ => 0))))] H := hP
  have hD : va_D A [(v, .inr (2, [.ref q_1, .ref q_5, .null, .null, .null, .null, .int (nI 0)])), (q_1, .inr (1, [.ref a1__2, .ref a2__3, .ref a3__4, .int (nI 2), .int (nI 1), .int (nI 0), .int (nI 0), .int (nI 0)])), (a1__2, .inl (G.2.1, 256, .inl (gn (fun _ => 0)))), (a2__3, .inl (G.2.1, 256, .inl (gn (fun _ => 5)))), (a3__4, .inl (G.2.1, 8, .inl (gn (fun k => if k = 0 then 0 else 100)))), (q_5, .inl (G.2.1, 256, .inl (gn (fun _ => 0)))), (q_6, .inl (G.2.1, 256, .inl (gn (fun _ => 0))))] := hD
  refine va_putF (D := G.1) (ci := 2) (v := .ref q_6) (ty := .array .int) (C := RX2) (T := TX2) (N := 7) hx hb hts hi2 tyX2 tyX2_ok nmX2 hown hK hP hD hS 0 rfl rfl 2 (by decide) (hts (.fieldLink RX2 22 "LandQuarters$Survey" "owners" "[I") (by decide +kernel)) (fun _ h9 => h9) rfl hin0 rfl (by decide +kernel) (rfl) (rfl) (Nat.le_of_ble_eq_true rfl) dX2_init_30 (fun H locs hP hD hS => ?_)
  have hP : va_P G.1 vwCl [(v, .inr (2, [.ref q_1, .ref q_5, .ref q_6, .null, .null, .null, .int (nI 0)])), (q_1, .inr (1, [.ref a1__2, .ref a2__3, .ref a3__4, .int (nI 2), .int (nI 1), .int (nI 0), .int (nI 0), .int (nI 0)])), (a1__2, .inl (G.2.1, 256, .inl (gn (fun _ => 0)))), (a2__3, .inl (G.2.1, 256, .inl (gn (fun _ => 5)))), (a3__4, .inl (G.2.1, 8, .inl (gn (fun k => if k = 0 then 0 else 100)))), (q_5, .inl (G.2.1, 256, .inl (gn (fun _ => 0)))), (q_6, .inl (G.2.1, 256, .inl (gn (fun _ => 0))))] H := hP
  have hD : va_D A [(v, .inr (2, [.ref q_1, .ref q_5, .ref q_6, .null, .null, .null, .int (nI 0)])), (q_1, .inr (1, [.ref a1__2, .ref a2__3, .ref a3__4, .int (nI 2), .int (nI 1), .int (nI 0), .int (nI 0), .int (nI 0)])), (a1__2, .inl (G.2.1, 256, .inl (gn (fun _ => 0)))), (a2__3, .inl (G.2.1, 256, .inl (gn (fun _ => 5)))), (a3__4, .inl (G.2.1, 8, .inl (gn (fun k => if k = 0 then 0 else 100)))), (q_5, .inl (G.2.1, 256, .inl (gn (fun _ => 0)))), (q_6, .inl (G.2.1, 256, .inl (gn (fun _ => 0))))] := hD
  refine lv_aload_n hx hb dX2_init_33 rfl (lv_at hl 0 rfl) ?_
  refine lv_sipush (v := nI 256) hx hb dX2_init_34 (by decide) ?_
  refine gNewI F (by decide +kernel) hP hD hS (by decide) (Nat.le_of_ble_eq_true rfl) (Nat.le_of_ble_eq_true rfl) dX2_init_37 (fun q_7 H hP hD hS => ?_)
  have hP : va_P G.1 vwCl [(v, .inr (2, [.ref q_1, .ref q_5, .ref q_6, .null, .null, .null, .int (nI 0)])), (q_1, .inr (1, [.ref a1__2, .ref a2__3, .ref a3__4, .int (nI 2), .int (nI 1), .int (nI 0), .int (nI 0), .int (nI 0)])), (a1__2, .inl (G.2.1, 256, .inl (gn (fun _ => 0)))), (a2__3, .inl (G.2.1, 256, .inl (gn (fun _ => 5)))), (a3__4, .inl (G.2.1, 8, .inl (gn (fun k => if k = 0 then 0 else 100)))), (q_5, .inl (G.2.1, 256, .inl (gn (fun _ => 0)))), (q_6, .inl (G.2.1, 256, .inl (gn (fun _ => 0)))), (q_7, .inl (G.2.1, 256, .inl (gn (fun _ => 0))))] H := hP
  have hD : va_D A [(v, .inr (2, [.ref q_1, .ref q_5, .ref q_6, .null, .null, .null, .int (nI 0)])), (q_1, .inr (1, [.ref a1__2, .ref a2__3, .ref a3__4, .int (nI 2), .int (nI 1), .int (nI 0), .int (nI 0), .int (nI 0)])), (a1__2, .inl (G.2.1, 256, .inl (gn (fun _ => 0)))), (a2__3, .inl (G.2.1, 256, .inl (gn (fun _ => 5)))), (a3__4, .inl (G.2.1, 8, .inl (gn (fun k => if k = 0 then 0 else 100)))), (q_5, .inl (G.2.1, 256, .inl (gn (fun _ => 0)))), (q_6, .inl (G.2.1, 256, .inl (gn (fun _ => 0)))), (q_7, .inl (G.2.1, 256, .inl (gn (fun _ => 0))))] := hD
  refine va_putF (D := G.1) (ci := 2) (v := .ref q_7) (ty := .array .int) (C := RX2) (T := TX2) (N := 7) hx hb hts hi2 tyX2 tyX2_ok nmX2 hown hK hP hD hS 0 rfl rfl 3 (by decide) (hts (.fieldLink RX2 25 "LandQuarters$Survey" "cornerXs" "[I") (by decide +kernel)) (fun _ h9 => h9) rfl hin0 rfl (by decide +kernel) (rfl) (rfl) (Nat.le_of_ble_eq_true rfl) dX2_init_39 (fun H locs hP hD hS => ?_)
  have hP : va_P G.1 vwCl [(v, .inr (2, [.ref q_1, .ref q_5, .ref q_6, .ref q_7, .null, .null, .int (nI 0)])), (q_1, .inr (1, [.ref a1__2, .ref a2__3, .ref a3__4, .int (nI 2), .int (nI 1), .int (nI 0), .int (nI 0), .int (nI 0)])), (a1__2, .inl (G.2.1, 256, .inl (gn (fun _ => 0)))), (a2__3, .inl (G.2.1, 256, .inl (gn (fun _ => 5)))), (a3__4, .inl (G.2.1, 8, .inl (gn (fun k => if k = 0 then 0 else 100)))), (q_5, .inl (G.2.1, 256, .inl (gn (fun _ => 0)))), (q_6, .inl (G.2.1, 256, .inl (gn (fun _ => 0)))), (q_7, .inl (G.2.1, 256, .inl (gn (fun _ => 0))))] H := hP
  have hD : va_D A [(v, .inr (2, [.ref q_1, .ref q_5, .ref q_6, .ref q_7, .null, .null, .int (nI 0)])), (q_1, .inr (1, [.ref a1__2, .ref a2__3, .ref a3__4, .int (nI 2), .int (nI 1), .int (nI 0), .int (nI 0), .int (nI 0)])), (a1__2, .inl (G.2.1, 256, .inl (gn (fun _ => 0)))), (a2__3, .inl (G.2.1, 256, .inl (gn (fun _ => 5)))), (a3__4, .inl (G.2.1, 8, .inl (gn (fun k => if k = 0 then 0 else 100)))), (q_5, .inl (G.2.1, 256, .inl (gn (fun _ => 0)))), (q_6, .inl (G.2.1, 256, .inl (gn (fun _ => 0)))), (q_7, .inl (G.2.1, 256, .inl (gn (fun _ => 0))))] := hD
  refine lv_aload_n hx hb dX2_init_42 rfl (lv_at hl 0 rfl) ?_
  refine lv_sipush (v := nI 256) hx hb dX2_init_43 (by decide) ?_
  refine gNewI F (by decide +kernel) hP hD hS (by decide) (Nat.le_of_ble_eq_true rfl) (Nat.le_of_ble_eq_true rfl) dX2_init_46 (fun q_8 H hP hD hS => ?_)
  have hP : va_P G.1 vwCl [(v, .inr (2, [.ref q_1, .ref q_5, .ref q_6, .ref q_7, .null, .null, .int (nI 0)])), (q_1, .inr (1, [.ref a1__2, .ref a2__3, .ref a3__4, .int (nI 2), .int (nI 1), .int (nI 0), .int (nI 0), .int (nI 0)])), (a1__2, .inl (G.2.1, 256, .inl (gn (fun _ => 0)))), (a2__3, .inl (G.2.1, 256, .inl (gn (fun _ => 5)))), (a3__4, .inl (G.2.1, 8, .inl (gn (fun k => if k = 0 then 0 else 100)))), (q_5, .inl (G.2.1, 256, .inl (gn (fun _ => 0)))), (q_6, .inl (G.2.1, 256, .inl (gn (fun _ => 0)))), (q_7, .inl (G.2.1, 256, .inl (gn (fun _ => 0)))), (q_8, .inl (G.2.1, 256, .inl (gn (fun _ => 0))))] H := hP
  have hD : va_D A [(v, .inr (2, [.ref q_1, .ref q_5, .ref q_6, .ref q_7, .null, .null, .int (nI 0)])), (q_1, .inr (1, [.ref a1__2, .ref a2__3, .ref a3__4, .int (nI 2), .int (nI 1), .int (nI 0), .int (nI 0), .int (nI 0)])), (a1__2, .inl (G.2.1, 256, .inl (gn (fun _ => 0)))), (a2__3, .inl (G.2.1, 256, .inl (gn (fun _ => 5)))), (a3__4, .inl (G.2.1, 8, .inl (gn (fun k => if k = 0 then 0 else 100)))), (q_5, .inl (G.2.1, 256, .inl (gn (fun _ => 0)))), (q_6, .inl (G.2.1, 256, .inl (gn (fun _ => 0)))), (q_7, .inl (G.2.1, 256, .inl (gn (fun _ => 0)))), (q_8, .inl (G.2.1, 256, .inl (gn (fun _ => 0))))] := hD
  refine va_putF (D := G.1) (ci := 2) (v := .ref q_8) (ty := .array .int) (C := RX2) (T := TX2) (N := 7) hx hb hts hi2 tyX2 tyX2_ok nmX2 hown hK hP hD hS 0 rfl rfl 4 (by decide) (hts (.fieldLink RX2 28 "LandQuarters$Survey" "cornerYs" "[I") (by decide +kernel)) (fun _ h9 => h9) rfl hin0 rfl (by decide +kernel) (rfl) (rfl) (Nat.le_of_ble_eq_true rfl) dX2_init_48 (fun H locs hP hD hS => ?_)
  have hP : va_P G.1 vwCl [(v, .inr (2, [.ref q_1, .ref q_5, .ref q_6, .ref q_7, .ref q_8, .null, .int (nI 0)])), (q_1, .inr (1, [.ref a1__2, .ref a2__3, .ref a3__4, .int (nI 2), .int (nI 1), .int (nI 0), .int (nI 0), .int (nI 0)])), (a1__2, .inl (G.2.1, 256, .inl (gn (fun _ => 0)))), (a2__3, .inl (G.2.1, 256, .inl (gn (fun _ => 5)))), (a3__4, .inl (G.2.1, 8, .inl (gn (fun k => if k = 0 then 0 else 100)))), (q_5, .inl (G.2.1, 256, .inl (gn (fun _ => 0)))), (q_6, .inl (G.2.1, 256, .inl (gn (fun _ => 0)))), (q_7, .inl (G.2.1, 256, .inl (gn (fun _ => 0)))), (q_8, .inl (G.2.1, 256, .inl (gn (fun _ => 0))))] H := hP
  have hD : va_D A [(v, .inr (2, [.ref q_1, .ref q_5, .ref q_6, .ref q_7, .ref q_8, .null, .int (nI 0)])), (q_1, .inr (1, [.ref a1__2, .ref a2__3, .ref a3__4, .int (nI 2), .int (nI 1), .int (nI 0), .int (nI 0), .int (nI 0)])), (a1__2, .inl (G.2.1, 256, .inl (gn (fun _ => 0)))), (a2__3, .inl (G.2.1, 256, .inl (gn (fun _ => 5)))), (a3__4, .inl (G.2.1, 8, .inl (gn (fun k => if k = 0 then 0 else 100)))), (q_5, .inl (G.2.1, 256, .inl (gn (fun _ => 0)))), (q_6, .inl (G.2.1, 256, .inl (gn (fun _ => 0)))), (q_7, .inl (G.2.1, 256, .inl (gn (fun _ => 0)))), (q_8, .inl (G.2.1, 256, .inl (gn (fun _ => 0))))] := hD
  refine lv_aload_n hx hb dX2_init_51 rfl (lv_at hl 0 rfl) ?_
  refine lv_sipush (v := nI 256) hx hb dX2_init_52 (by decide) ?_
  refine gNewI F (by decide +kernel) hP hD hS (by decide) (Nat.le_of_ble_eq_true rfl) (Nat.le_of_ble_eq_true rfl) dX2_init_55 (fun q_9 H hP hD hS => ?_)
  have hP : va_P G.1 vwCl [(v, .inr (2, [.ref q_1, .ref q_5, .ref q_6, .ref q_7, .ref q_8, .null, .int (nI 0)])), (q_1, .inr (1, [.ref a1__2, .ref a2__3, .ref a3__4, .int (nI 2), .int (nI 1), .int (nI 0), .int (nI 0), .int (nI 0)])), (a1__2, .inl (G.2.1, 256, .inl (gn (fun _ => 0)))), (a2__3, .inl (G.2.1, 256, .inl (gn (fun _ => 5)))), (a3__4, .inl (G.2.1, 8, .inl (gn (fun k => if k = 0 then 0 else 100)))), (q_5, .inl (G.2.1, 256, .inl (gn (fun _ => 0)))), (q_6, .inl (G.2.1, 256, .inl (gn (fun _ => 0)))), (q_7, .inl (G.2.1, 256, .inl (gn (fun _ => 0)))), (q_8, .inl (G.2.1, 256, .inl (gn (fun _ => 0)))), (q_9, .inl (G.2.1, 256, .inl (gn (fun _ => 0))))] H := hP
  have hD : va_D A [(v, .inr (2, [.ref q_1, .ref q_5, .ref q_6, .ref q_7, .ref q_8, .null, .int (nI 0)])), (q_1, .inr (1, [.ref a1__2, .ref a2__3, .ref a3__4, .int (nI 2), .int (nI 1), .int (nI 0), .int (nI 0), .int (nI 0)])), (a1__2, .inl (G.2.1, 256, .inl (gn (fun _ => 0)))), (a2__3, .inl (G.2.1, 256, .inl (gn (fun _ => 5)))), (a3__4, .inl (G.2.1, 8, .inl (gn (fun k => if k = 0 then 0 else 100)))), (q_5, .inl (G.2.1, 256, .inl (gn (fun _ => 0)))), (q_6, .inl (G.2.1, 256, .inl (gn (fun _ => 0)))), (q_7, .inl (G.2.1, 256, .inl (gn (fun _ => 0)))), (q_8, .inl (G.2.1, 256, .inl (gn (fun _ => 0)))), (q_9, .inl (G.2.1, 256, .inl (gn (fun _ => 0))))] := hD
  refine va_putF (D := G.1) (ci := 2) (v := .ref q_9) (ty := .array .int) (C := RX2) (T := TX2) (N := 7) hx hb hts hi2 tyX2 tyX2_ok nmX2 hown hK hP hD hS 0 rfl rfl 5 (by decide) (hts (.fieldLink RX2 31 "LandQuarters$Survey" "sizes" "[I") (by decide +kernel)) (fun _ h9 => h9) rfl hin0 rfl (by decide +kernel) (rfl) (rfl) (Nat.le_of_ble_eq_true rfl) dX2_init_57 (fun H locs hP hD hS => ?_)
  have hP : va_P G.1 vwCl [(v, .inr (2, [.ref q_1, .ref q_5, .ref q_6, .ref q_7, .ref q_8, .ref q_9, .int (nI 0)])), (q_1, .inr (1, [.ref a1__2, .ref a2__3, .ref a3__4, .int (nI 2), .int (nI 1), .int (nI 0), .int (nI 0), .int (nI 0)])), (a1__2, .inl (G.2.1, 256, .inl (gn (fun _ => 0)))), (a2__3, .inl (G.2.1, 256, .inl (gn (fun _ => 5)))), (a3__4, .inl (G.2.1, 8, .inl (gn (fun k => if k = 0 then 0 else 100)))), (q_5, .inl (G.2.1, 256, .inl (gn (fun _ => 0)))), (q_6, .inl (G.2.1, 256, .inl (gn (fun _ => 0)))), (q_7, .inl (G.2.1, 256, .inl (gn (fun _ => 0)))), (q_8, .inl (G.2.1, 256, .inl (gn (fun _ => 0)))), (q_9, .inl (G.2.1, 256, .inl (gn (fun _ => 0))))] H := hP
  have hD : va_D A [(v, .inr (2, [.ref q_1, .ref q_5, .ref q_6, .ref q_7, .ref q_8, .ref q_9, .int (nI 0)])), (q_1, .inr (1, [.ref a1__2, .ref a2__3, .ref a3__4, .int (nI 2), .int (nI 1), .int (nI 0), .int (nI 0), .int (nI 0)])), (a1__2, .inl (G.2.1, 256, .inl (gn (fun _ => 0)))), (a2__3, .inl (G.2.1, 256, .inl (gn (fun _ => 5)))), (a3__4, .inl (G.2.1, 8, .inl (gn (fun k => if k = 0 then 0 else 100)))), (q_5, .inl (G.2.1, 256, .inl (gn (fun _ => 0)))), (q_6, .inl (G.2.1, 256, .inl (gn (fun _ => 0)))), (q_7, .inl (G.2.1, 256, .inl (gn (fun _ => 0)))), (q_8, .inl (G.2.1, 256, .inl (gn (fun _ => 0)))), (q_9, .inl (G.2.1, 256, .inl (gn (fun _ => 0))))] := hD
  refine lv_aload_n hx hb dX2_init_60 rfl (lv_at hl 0 rfl) ?_
  refine lv_iconst (v := nI 0) hx hb dX2_init_61 (by decide) ?_
  refine va_put (D := G.1) (ci := 2) (v := .int (nI 0)) (ty := .int) (C := RX2) (T := TX2) (N := 7) hx hb hts hi2 tyX2 tyX2_ok nmX2 hown hK hP hD hS 0 rfl rfl 6 (by decide) (hts (.fieldLink RX2 34 "LandQuarters$Survey" "plotCount" "I") (by decide +kernel)) (fun _ h9 => h9) rfl (by decide +kernel) (rfl) (rfl) (Nat.le_of_ble_eq_true rfl) dX2_init_62 (fun H locs hP hD hS => ?_)
  have hP : va_P G.1 vwCl [(v, .inr (2, [.ref q_1, .ref q_5, .ref q_6, .ref q_7, .ref q_8, .ref q_9, .int (nI 0)])), (q_1, .inr (1, [.ref a1__2, .ref a2__3, .ref a3__4, .int (nI 2), .int (nI 1), .int (nI 0), .int (nI 0), .int (nI 0)])), (a1__2, .inl (G.2.1, 256, .inl (gn (fun _ => 0)))), (a2__3, .inl (G.2.1, 256, .inl (gn (fun _ => 5)))), (a3__4, .inl (G.2.1, 8, .inl (gn (fun k => if k = 0 then 0 else 100)))), (q_5, .inl (G.2.1, 256, .inl (gn (fun _ => 0)))), (q_6, .inl (G.2.1, 256, .inl (gn (fun _ => 0)))), (q_7, .inl (G.2.1, 256, .inl (gn (fun _ => 0)))), (q_8, .inl (G.2.1, 256, .inl (gn (fun _ => 0)))), (q_9, .inl (G.2.1, 256, .inl (gn (fun _ => 0))))] H := hP
  have hD : va_D A [(v, .inr (2, [.ref q_1, .ref q_5, .ref q_6, .ref q_7, .ref q_8, .ref q_9, .int (nI 0)])), (q_1, .inr (1, [.ref a1__2, .ref a2__3, .ref a3__4, .int (nI 2), .int (nI 1), .int (nI 0), .int (nI 0), .int (nI 0)])), (a1__2, .inl (G.2.1, 256, .inl (gn (fun _ => 0)))), (a2__3, .inl (G.2.1, 256, .inl (gn (fun _ => 5)))), (a3__4, .inl (G.2.1, 8, .inl (gn (fun k => if k = 0 then 0 else 100)))), (q_5, .inl (G.2.1, 256, .inl (gn (fun _ => 0)))), (q_6, .inl (G.2.1, 256, .inl (gn (fun _ => 0)))), (q_7, .inl (G.2.1, 256, .inl (gn (fun _ => 0)))), (q_8, .inl (G.2.1, 256, .inl (gn (fun _ => 0)))), (q_9, .inl (G.2.1, 256, .inl (gn (fun _ => 0))))] := hD
  refine lv_aload_n hx hb dX2_init_65 rfl (lv_at hl 0 rfl) ?_
  refine gCv F (gRunV (own := RX2) (C := RX2) (ci := 2) (bytes := cX2_measure) (n := 0) (As := []) (rest := []) F (c_X2_measure l G v q_5 q_6 q_7 q_8 q_9 q_1 a1__2 a2__3 a3__4 (fun _ => 0) (fun _ => 5) (fun k => if k = 0 then 0 else 100) 2 1 0 0 0 (gn (fun _ => 0)) (fun _ => 0) (fun _ => 0) (fun _ => 0) (fun _ => 0) 0 (fun _ => by decide) H.size) gX2_init_X2_measure rfl rfl rfl rfl (by decide +kernel) rfl ⟨Nat.le_of_ble_eq_true rfl, Nat.le_of_ble_eq_true rfl⟩ hP hD (lit := [(v, .inr (2, [.ref q_1, .ref q_5, .ref q_6, .ref q_7, .ref q_8, .ref q_9, .int (nI 0)])), (q_1, .inr (1, [.ref a1__2, .ref a2__3, .ref a3__4, .int (nI 2), .int (nI 1), .int (nI 0), .int (nI 0), .int (nI 0)])), (a1__2, .inl (G.2.1, 256, .inl (gn (fun _ => 0)))), (a2__3, .inl (G.2.1, 256, .inl (gn (fun _ => 5)))), (a3__4, .inl (G.2.1, 8, .inl (gn (fun k => if k = 0 then 0 else 100)))), (q_5, .inl (G.2.1, 256, .inl (gn (fun _ => 0)))), (q_6, .inl (G.2.1, 256, .inl (gn (fun _ => 0)))), (q_7, .inl (G.2.1, 256, .inl (gn (fun _ => 0)))), (q_8, .inl (G.2.1, 256, .inl (gn (fun _ => 0)))), (q_9, .inl (G.2.1, 256, .inl (gn (fun _ => 0))))]) (wt := []) (wc := [(v, .inr (2, [.ref q_1, .ref q_5, .ref q_6, .ref q_7, .ref q_8, .ref q_9, .int (nI 0)])), (q_5, .inl (G.2.1, 256, .inl (gn (fun _ => 0)))), (q_6, .inl (G.2.1, 256, .inl (gn (fun _ => 0)))), (q_7, .inl (G.2.1, 256, .inl (gn (fun _ => 0)))), (q_8, .inl (G.2.1, 256, .inl (gn (fun _ => 0)))), (q_9, .inl (G.2.1, 256, .inl (gn (fun _ => 0)))), (q_1, .inr (1, [.ref a1__2, .ref a2__3, .ref a3__4, .int (nI 2), .int (nI 1), .int (nI 0), .int (nI 0), .int (nI 0)])), (a1__2, .inl (G.2.1, 256, .inl (gn (fun _ => 0)))), (a2__3, .inl (G.2.1, 256, .inl (gn (fun _ => 5)))), (a3__4, .inl (G.2.1, 8, .inl (gn (fun k => if k = 0 then 0 else 100))))]) (isC := [0, 5, 6, 7, 8, 9, 1, 2, 3, 4]) rfl (by decide) rfl rfl rfl hl.1 (Nat.le_of_ble_eq_true rfl) dX2_init_66 ⟨Nat.le_of_ble_eq_true rfl, Nat.le_of_ble_eq_true rfl⟩) hP hD hS (lit := [(v, .inr (2, [.ref q_1, .ref q_5, .ref q_6, .ref q_7, .ref q_8, .ref q_9, .int (nI 0)])), (q_1, .inr (1, [.ref a1__2, .ref a2__3, .ref a3__4, .int (nI 2), .int (nI 1), .int (nI 0), .int (nI 0), .int (nI 0)])), (a1__2, .inl (G.2.1, 256, .inl (gn (fun _ => 0)))), (a2__3, .inl (G.2.1, 256, .inl (gn (fun _ => 5)))), (a3__4, .inl (G.2.1, 8, .inl (gn (fun k => if k = 0 then 0 else 100)))), (q_5, .inl (G.2.1, 256, .inl (gn (fun _ => 0)))), (q_6, .inl (G.2.1, 256, .inl (gn (fun _ => 0)))), (q_7, .inl (G.2.1, 256, .inl (gn (fun _ => 0)))), (q_8, .inl (G.2.1, 256, .inl (gn (fun _ => 0)))), (q_9, .inl (G.2.1, 256, .inl (gn (fun _ => 0))))]) (wt := []) (wc := [(v, .inr (2, [.ref q_1, .ref q_5, .ref q_6, .ref q_7, .ref q_8, .ref q_9, .int (nI 0)])), (q_5, .inl (G.2.1, 256, .inl (gn (fun _ => 0)))), (q_6, .inl (G.2.1, 256, .inl (gn (fun _ => 0)))), (q_7, .inl (G.2.1, 256, .inl (gn (fun _ => 0)))), (q_8, .inl (G.2.1, 256, .inl (gn (fun _ => 0)))), (q_9, .inl (G.2.1, 256, .inl (gn (fun _ => 0)))), (q_1, .inr (1, [.ref a1__2, .ref a2__3, .ref a3__4, .int (nI 2), .int (nI 1), .int (nI 0), .int (nI 0), .int (nI 0)])), (a1__2, .inl (G.2.1, 256, .inl (gn (fun _ => 0)))), (a2__3, .inl (G.2.1, 256, .inl (gn (fun _ => 5)))), (a3__4, .inl (G.2.1, 8, .inl (gn (fun k => if k = 0 then 0 else 100))))]) (wr := []) (isC := [0, 5, 6, 7, 8, 9, 1, 2, 3, 4]) (isR := []) rfl rfl (by decide) (by decide) (fun u H locs hp66 hP hD hS => ?_)
  obtain ⟨so1__10, cx1__11, cy1__12, zs1__13⟩ := u
  try dsimp only at hp66
  have hP : va_P G.1 vwCl [(v, .inr (2, [.ref q_1, .ref q_5, .ref q_6, .ref q_7, .ref q_8, .ref q_9, .int (nI (cnt (fun _ => 0)))])), (q_5, .inl (G.2.1, 256, .inl (gn (fun c => rk (fun _ => 0) (mp c))))), (q_6, .inl (G.2.1, 256, .inl (gn so1__10))), (q_7, .inl (G.2.1, 256, .inl (gn cx1__11))), (q_8, .inl (G.2.1, 256, .inl (gn cy1__12))), (q_9, .inl (G.2.1, 256, .inl (gn zs1__13))), (q_1, .inr (1, [.ref a1__2, .ref a2__3, .ref a3__4, .int (nI 2), .int (nI 1), .int (nI 0), .int (nI 0), .int (nI 0)])), (a1__2, .inl (G.2.1, 256, .inl (gn (fun _ => 0)))), (a2__3, .inl (G.2.1, 256, .inl (gn (fun _ => 5)))), (a3__4, .inl (G.2.1, 8, .inl (gn (fun k => if k = 0 then 0 else 100))))] H := hP
  have hD : va_D A [(v, .inr (2, [.ref q_1, .ref q_5, .ref q_6, .ref q_7, .ref q_8, .ref q_9, .int (nI (cnt (fun _ => 0)))])), (q_5, .inl (G.2.1, 256, .inl (gn (fun c => rk (fun _ => 0) (mp c))))), (q_6, .inl (G.2.1, 256, .inl (gn so1__10))), (q_7, .inl (G.2.1, 256, .inl (gn cx1__11))), (q_8, .inl (G.2.1, 256, .inl (gn cy1__12))), (q_9, .inl (G.2.1, 256, .inl (gn zs1__13))), (q_1, .inr (1, [.ref a1__2, .ref a2__3, .ref a3__4, .int (nI 2), .int (nI 1), .int (nI 0), .int (nI 0), .int (nI 0)])), (a1__2, .inl (G.2.1, 256, .inl (gn (fun _ => 0)))), (a2__3, .inl (G.2.1, 256, .inl (gn (fun _ => 5)))), (a3__4, .inl (G.2.1, 8, .inl (gn (fun k => if k = 0 then 0 else 100))))] := hD
  exact gRv F dX2_init_69 (q_1, a1__2, a2__3, a3__4, q_5, q_6, q_7, q_8, q_9, so1__10, cx1__11, cy1__12, zs1__13) (by omega) hP hD hS (Nat.le_refl _) (Nat.le_refl _)

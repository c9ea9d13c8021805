/-! OWN: part, far -/
set_option maxHeartbeats 8000000 in
set_option maxRecDepth 100000 in
theorem c_part (l : Launch) (G : gG) (v : Int32) (n : Nat) (hn : 0 < n ∧ n < 2147483648) : LN l G yL_part wsL_part { frames := 0, cells := 0, slots := 0, locals := 0 } [.int v, .int (nI n)] (fun r => r = nI (ptv v n)) 0 0 := by
  refine gMetP_mk (cc := cL_part) (nL := 2) (ret := some .int) (Qc := fun A => va_Qi (S := Unit) (fun r _ => r = nI (ptv v n)) (gB G A (fun _ => [])) A) (by decide) rfl (Nat.le_of_ble_eq_true rfl) ?_
  intro p e s m args below meth c A F hZ ls hl hP hD hS
  have hx := F.1
  have hb := F.2.1
  have hts := F.2.2.2.2.2.2.1
  have hown : s.vm.findClass RL = some m.cls := F.2.2.2.2.2.1
  have hKK := F.2.2.2.2.2.2.2.2.1
  have hl : lv_has ls 2 [(0, .int v), (1, .int (nI n))] := hl
  generalize hH : s.heap = H at hP ⊢
  have hS0 : va_S A s.heap H [] := by rw [← hH]; exact va_S.rf
  clear hS
  have hS := hS0
  clear hS0
  generalize hLo : ([] : List Loc) = locs at hS ⊢
  refine lv_iload_n hx hb dL_part_0 rfl (lv_at hl 0 rfl) ?_
  refine lv_ldc (own := RL) (v := (2147483647)) hx hb hown (hts (.constant RL 7 ((2147483647))) (by decide +kernel)) dL_part_1 ?_
  refine lv_iand hx hb dL_part_3 ?_
  refine W.eq (g2 := F0 m 4 ls [.int (nI (lo31 v))]) (congrArg (fun v_ => F0 m 4 ls [v_]) (show (.int (v &&& (2147483647)) : Value) = .int (nI (lo31 v)) from congrArg Value.int (lo31_eq v))) ?_
  refine lv_iload_n hx hb dL_part_4 rfl (lv_at hl 1 rfl) ?_
  refine gIrem (a := lo31 v) (b := n) hx hb dL_part_5 (by have := lo31_lt v; omega) (by omega) (by omega) ?_
  exact gRi F dL_part_6 (rfl) () (rfl) hP hD hS (Nat.le_of_ble_eq_true rfl) (Nat.le_of_ble_eq_true rfl)

set_option maxHeartbeats 8000000 in
set_option maxRecDepth 100000 in
theorem c_far0 (l : Launch) (G : gG) (lo : Int) (hi : Int) : LN l G yL_far wsL_far { frames := 0, cells := 0, slots := 0, locals := 0 } [.int (nI 0), .int (zI lo), .int (zI hi)] (fun r => r = zI (lo - 1)) 0 0 := by
  refine gMetP_mk (cc := cL_far) (nL := 3) (ret := some .int) (Qc := fun A => va_Qi (S := Unit) (fun r _ => r = zI (lo - 1)) (gB G A (fun _ => [])) A) (by decide) rfl (Nat.le_of_ble_eq_true rfl) ?_
  intro p e s m args below meth c A F hZ ls hl hP hD hS
  have hx := F.1
  have hb := F.2.1
  have hts := F.2.2.2.2.2.2.1
  have hown : s.vm.findClass RL = some m.cls := F.2.2.2.2.2.1
  have hKK := F.2.2.2.2.2.2.2.2.1
  have hl : lv_has ls 3 [(0, .int (nI 0)), (1, .int (zI lo)), (2, .int (zI hi))] := hl
  generalize hH : s.heap = H at hP ⊢
  have hS0 : va_S A s.heap H [] := by rw [← hH]; exact va_S.rf
  clear hS
  have hS := hS0
  clear hS0
  generalize hLo : ([] : List Loc) = locs at hS ⊢
  refine lv_iload_n hx hb dL_far_0 rfl (lv_at hl 0 rfl) ?_
  refine bZF_ne (tgt := 10) hx hb dL_far_1 (by decide) (by decide) ?_
  refine lv_iload_n hx hb dL_far_4 rfl (lv_at hl 1 rfl) ?_
  refine lv_iconst (v := nI 1) hx hb dL_far_5 (by decide) ?_
  refine W.eq (g2 := F0 m 6 ls [.int (zI ((1 : Nat) : Int)), .int (zI lo)]) (by simp only [zI_nat]) ?_
  refine gZsub (a := lo) (b := ((1 : Nat) : Int)) hx hb dL_far_6 ?_
  refine lv_goto (tgt := 33) hx hb dL_far_7 (by decide) ?_
  exact gRi F dL_far_33 (rfl) () (rfl) hP hD hS (Nat.le_of_ble_eq_true rfl) (Nat.le_of_ble_eq_true rfl)

set_option maxHeartbeats 8000000 in
set_option maxRecDepth 100000 in
theorem c_far1 (l : Launch) (G : gG) (lo : Int) (hi : Int) : LN l G yL_far wsL_far { frames := 0, cells := 0, slots := 0, locals := 0 } [.int (nI 1), .int (zI lo), .int (zI hi)] (fun r => r = zI (hi + 1)) 0 0 := by
  refine gMetP_mk (cc := cL_far) (nL := 3) (ret := some .int) (Qc := fun A => va_Qi (S := Unit) (fun r _ => r = zI (hi + 1)) (gB G A (fun _ => [])) A) (by decide) rfl (Nat.le_of_ble_eq_true rfl) ?_
  intro p e s m args below meth c A F hZ ls hl hP hD hS
  have hx := F.1
  have hb := F.2.1
  have hts := F.2.2.2.2.2.2.1
  have hown : s.vm.findClass RL = some m.cls := F.2.2.2.2.2.1
  have hKK := F.2.2.2.2.2.2.2.2.1
  have hl : lv_has ls 3 [(0, .int (nI 1)), (1, .int (zI lo)), (2, .int (zI hi))] := hl
  generalize hH : s.heap = H at hP ⊢
  have hS0 : va_S A s.heap H [] := by rw [← hH]; exact va_S.rf
  clear hS
  have hS := hS0
  clear hS0
  generalize hLo : ([] : List Loc) = locs at hS ⊢
  refine lv_iload_n hx hb dL_far_0 rfl (lv_at hl 0 rfl) ?_
  refine bZT_ne (tgt := 10) hx hb dL_far_1 (by decide) (by decide) ?_
  refine lv_iload_n hx hb dL_far_10 rfl (lv_at hl 0 rfl) ?_
  refine lv_iconst (v := nI 1) hx hb dL_far_11 (by decide) ?_
  refine bIF_ne (tgt := 21) hx hb dL_far_12 (by decide) (by decide) ?_
  refine lv_iload_n hx hb dL_far_15 rfl (lv_at hl 2 rfl) ?_
  refine lv_iconst (v := nI 1) hx hb dL_far_16 (by decide) ?_
  refine W.eq (g2 := F0 m 17 ls [.int (zI ((1 : Nat) : Int)), .int (zI hi)]) (by simp only [zI_nat]) ?_
  refine gZadd (a := hi) (b := ((1 : Nat) : Int)) hx hb dL_far_17 ?_
  refine lv_goto (tgt := 33) hx hb dL_far_18 (by decide) ?_
  exact gRi F dL_far_33 (rfl) () (rfl) hP hD hS (Nat.le_of_ble_eq_true rfl) (Nat.le_of_ble_eq_true rfl)

set_option maxHeartbeats 8000000 in
set_option maxRecDepth 100000 in
theorem c_far2 (l : Launch) (G : gG) (lo : Int) (hi : Int) : LN l G yL_far wsL_far { frames := 0, cells := 0, slots := 0, locals := 0 } [.int (nI 2), .int (zI lo), .int (zI hi)] (fun r => r = zI (-2147483648)) 0 0 := by
  refine gMetP_mk (cc := cL_far) (nL := 3) (ret := some .int) (Qc := fun A => va_Qi (S := Unit) (fun r _ => r = zI (-2147483648)) (gB G A (fun _ => [])) A) (by decide) rfl (Nat.le_of_ble_eq_true rfl) ?_
  intro p e s m args below meth c A F hZ ls hl hP hD hS
  have hx := F.1
  have hb := F.2.1
  have hts := F.2.2.2.2.2.2.1
  have hown : s.vm.findClass RL = some m.cls := F.2.2.2.2.2.1
  have hKK := F.2.2.2.2.2.2.2.2.1
  have hl : lv_has ls 3 [(0, .int (nI 2)), (1, .int (zI lo)), (2, .int (zI hi))] := hl
  generalize hH : s.heap = H at hP ⊢
  have hS0 : va_S A s.heap H [] := by rw [← hH]; exact va_S.rf
  clear hS
  have hS := hS0
  clear hS0
  generalize hLo : ([] : List Loc) = locs at hS ⊢
  refine lv_iload_n hx hb dL_far_0 rfl (lv_at hl 0 rfl) ?_
  refine bZT_ne (tgt := 10) hx hb dL_far_1 (by decide) (by decide) ?_
  refine lv_iload_n hx hb dL_far_10 rfl (lv_at hl 0 rfl) ?_
  refine lv_iconst (v := nI 1) hx hb dL_far_11 (by decide) ?_
  refine bIT_ne (tgt := 21) hx hb dL_far_12 (by decide) (by decide) ?_
  refine lv_iload_n hx hb dL_far_21 rfl (lv_at hl 0 rfl) ?_
  refine lv_iconst (v := nI 2) hx hb dL_far_22 (by decide) ?_
  refine bIF_ne (tgt := 31) hx hb dL_far_23 (by decide) (by decide) ?_
  refine lv_ldc (own := RL) (v := (-2147483648)) hx hb hown (hts (.constant RL 146 ((-2147483648))) (by decide +kernel)) dL_far_26 ?_
  refine W.eq (g2 := F0 m 28 ls [.int (zI (-2147483648))]) (congrArg (fun v_ => F0 m 28 ls [v_]) (show (.int (-2147483648) : Value) = .int (zI (-2147483648)) from by rfl)) ?_
  refine lv_goto (tgt := 33) hx hb dL_far_28 (by decide) ?_
  exact gRi F dL_far_33 (rfl) () (rfl) hP hD hS (Nat.le_of_ble_eq_true rfl) (Nat.le_of_ble_eq_true rfl)

set_option maxHeartbeats 8000000 in
set_option maxRecDepth 100000 in
theorem c_far3 (l : Launch) (G : gG) (lo : Int) (hi : Int) : LN l G yL_far wsL_far { frames := 0, cells := 0, slots := 0, locals := 0 } [.int (nI 3), .int (zI lo), .int (zI hi)] (fun r => r = zI (2147483647)) 0 0 := by
  refine gMetP_mk (cc := cL_far) (nL := 3) (ret := some .int) (Qc := fun A => va_Qi (S := Unit) (fun r _ => r = zI (2147483647)) (gB G A (fun _ => [])) A) (by decide) rfl (Nat.le_of_ble_eq_true rfl) ?_
  intro p e s m args below meth c A F hZ ls hl hP hD hS
  have hx := F.1
  have hb := F.2.1
  have hts := F.2.2.2.2.2.2.1
  have hown : s.vm.findClass RL = some m.cls := F.2.2.2.2.2.1
  have hKK := F.2.2.2.2.2.2.2.2.1
  have hl : lv_has ls 3 [(0, .int (nI 3)), (1, .int (zI lo)), (2, .int (zI hi))] := hl
  generalize hH : s.heap = H at hP ⊢
  have hS0 : va_S A s.heap H [] := by rw [← hH]; exact va_S.rf
  clear hS
  have hS := hS0
  clear hS0
  generalize hLo : ([] : List Loc) = locs at hS ⊢
  refine lv_iload_n hx hb dL_far_0 rfl (lv_at hl 0 rfl) ?_
  refine bZT_ne (tgt := 10) hx hb dL_far_1 (by decide) (by decide) ?_
  refine lv_iload_n hx hb dL_far_10 rfl (lv_at hl 0 rfl) ?_
  refine lv_iconst (v := nI 1) hx hb dL_far_11 (by decide) ?_
  refine bIT_ne (tgt := 21) hx hb dL_far_12 (by decide) (by decide) ?_
  refine lv_iload_n hx hb dL_far_21 rfl (lv_at hl 0 rfl) ?_
  refine lv_iconst (v := nI 2) hx hb dL_far_22 (by decide) ?_
  refine bIT_ne (tgt := 31) hx hb dL_far_23 (by decide) (by decide) ?_
  refine lv_ldc (own := RL) (v := (2147483647)) hx hb hown (hts (.constant RL 7 ((2147483647))) (by decide +kernel)) dL_far_31 ?_
  refine W.eq (g2 := F0 m 33 ls [.int (zI (2147483647))]) (congrArg (fun v_ => F0 m 33 ls [v_]) (show (.int (2147483647) : Value) = .int (zI (2147483647)) from by rfl)) ?_
  exact gRi F dL_far_33 (rfl) () (rfl) hP hD hS (Nat.le_of_ble_eq_true rfl) (Nat.le_of_ble_eq_true rfl)

theorem c_far (l : Launch) (G : gG) (k : Nat) (lo hi : Int) (hk : k < 4) : LN l G yL_far wsL_far { frames := 0, cells := 0, slots := 0, locals := 0 } [.int (nI k), .int (zI lo), .int (zI hi)] (fun r => r = zI (fr k lo hi)) 0 0 := by
  have : k = 0 ∨ k = 1 ∨ k = 2 ∨ k = 3 := by omega
  rcases this with rfl | rfl | rfl | rfl
  · exact c_far0 l G lo hi
  · exact c_far1 l G lo hi
  · exact c_far2 l G lo hi
  · exact c_far3 l G lo hi
theorem c_farN (l : Launch) (G : gG) (k lo hi : Nat) (hk : k < 4) : LN l G yL_far wsL_far { frames := 0, cells := 0, slots := 0, locals := 0 } [.int (nI k), .int (nI lo), .int (nI hi)] (fun r => r = zI (fr k lo hi)) 0 0 := by
  have h := c_far l G k (lo : Int) (hi : Int) hk
  rw [zI_nat, zI_nat] at h; exact h
theorem c_farZ (l : Launch) (G : gG) (k : Nat) (lo : Int) (hi : Nat) (hk : k < 4) : LN l G yL_far wsL_far { frames := 0, cells := 0, slots := 0, locals := 0 } [.int (nI k), .int (zI lo), .int (nI hi)] (fun r => r = zI (fr k lo hi)) 0 0 := by
  have h := c_far l G k lo (hi : Int) hk
  rw [zI_nat] at h; exact h

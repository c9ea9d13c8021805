set_option maxHeartbeats 8000000 in
set_option maxRecDepth 100000 in
theorem c_lands (l : Launch) (G : gG)  (hl9 : l.stackTraces = false) : LN l G yL_lands wsL_lands { frames := 12, cells := 3300, slots := 420000, locals := 330 } [] (fun r => r = nI 1) 3300 420000 := by
  refine gMetP_mk (cc := cL_lands) (nL := 1) (ret := some .boolean) (Qc := fun A => va_Qi (S := Unit) (fun r _ => r = nI 1) (gB G A (fun _ => [])) A) (by decide) rfl (Nat.le_of_ble_eq_true rfl) ?_
  intro p e s m args below meth c A F hZ ls hl hP hD hS
  have hx := F.1
  have hb := F.2.1
  have hts := F.2.2.2.2.2.2.1
  have hown : s.vm.findClass RL = some m.cls := F.2.2.2.2.2.1
  have hKK := F.2.2.2.2.2.2.2.2.1
  have hl : lv_has ls 1 [] := hl
  generalize hH : s.heap = H at hP ⊢
  have hS0 : va_S A s.heap H [] := by rw [← hH]; exact va_S.rf
  clear hS
  have hS := hS0
  clear hS0
  generalize hLo : ([] : List Loc) = locs at hS ⊢
  have hi3 : ∀ w ∈ u_ws RX3 TX3 9, w ∈ wsL_lands := by decide +kernel
  refine va_new (ci := 3) (fs := [.null, .null, .null, .null, .int (nI 0), .null, .null, .int (nI 0), .null]) (C := RX3) (T := TX3) (N := 9) hx hb hts hi3 tyX3 tyX3_ok hown (hts (.classLink RL 10 RX3) (by decide +kernel)) (hts (.instantiable RX3 9) (by decide +kernel)) (hts (.initialized RX3) (by decide +kernel)) hKK.1 hP hD hS F.2.2.2.2.2.2.2.2.2 rfl (gDef3) (Nat.le_of_ble_eq_true rfl) (Nat.le_of_ble_eq_true rfl) dL_lands_0 (fun lq H hP hD hS => ?_)
  have hP : va_P G.1 vwCl [(lq, .inr (3, [.null, .null, .null, .null, .int (nI 0), .null, .null, .int (nI 0), .null]))] H := hP
  have hD : va_D A [(lq, .inr (3, [.null, .null, .null, .null, .int (nI 0), .null, .null, .int (nI 0), .null]))] := hD
  refine lv_dup hx hb dL_lands_3 rfl ?_
  refine gCv F (gRunI (own := RL) (bytes := cX3_init) (n := 0) (As := []) (rest := [.ref lq]) F (K_init l G lq H.size) ggL_lands_X3_init (by decide +kernel) (by decide +kernel) (by decide +kernel) rfl rfl rfl rfl rfl (by decide +kernel) rfl ⟨Nat.le_of_ble_eq_true rfl, Nat.le_of_ble_eq_true rfl⟩ hP hD (lit := [(lq, .inr (3, [.null, .null, .null, .null, .int (nI 0), .null, .null, .int (nI 0), .null]))]) (wt := []) (wc := [(lq, .inr (3, [.null, .null, .null, .null, .int (nI 0), .null, .null, .int (nI 0), .null]))]) (isC := [0]) rfl (by decide) rfl hl.1 (Nat.le_of_ble_eq_true rfl) dL_lands_4 ⟨Nat.le_of_ble_eq_true rfl, Nat.le_of_ble_eq_true rfl⟩) hP hD hS (lit := [(lq, .inr (3, [.null, .null, .null, .null, .int (nI 0), .null, .null, .int (nI 0), .null]))]) (wt := []) (wc := [(lq, .inr (3, [.null, .null, .null, .null, .int (nI 0), .null, .null, .int (nI 0), .null]))]) (isC := [0]) (wr := []) (isR := []) rfl rfl (by decide) (by decide) (fun u H locs hC0 hP hD hS => ?_)
  have hP : va_P G.1 vwCl (u ++ []) H := hP
  have hD : va_D A (u ++ []) := hD
  have hC : clS G lq u (LN0, [], KN0, BU0, 0) := S00_eq ▸ hC0
  have hS9 : spS (LN0, [], KN0, BU0, 0) := S00_eq ▸ S00_sp
  refine W.widen (k := 25) (n := 3714) (Nat.le_of_ble_eq_true rfl) (Nat.le_of_ble_eq_true rfl) ?_
  refine lv_astore_n (lv' := [(0, .ref lq)]) hx hb dL_lands_7 rfl hl (by decide) rfl (fun ls hl => ?_)
  refine ld_0 hS9 hl9 F hZ hC hP hD hS hl (fun SL hS9 u H locs ls hC hP hD hS hl => ?_)
  refine ld_1 SL hS9 hl9 F hZ hC hP hD hS hl (fun SL hS9 u H locs ls hC hP hD hS hl => ?_)
  refine ld_2 SL hS9 hl9 F hZ hC hP hD hS hl (fun SL hS9 u H locs ls hC hP hD hS hl => ?_)
  refine ld_3 SL hS9 hl9 F hZ hC hP hD hS hl (fun SL hS9 u H locs ls hC hP hD hS hl => ?_)
  refine ld_4 SL hS9 hl9 F hZ hC hP hD hS hl (fun SL hS9 u H locs ls hC hP hD hS hl => ?_)
  refine ld_5 SL hS9 hl9 F hZ hC hP hD hS hl (fun SL hS9 u H locs ls hC hP hD hS hl => ?_)
  refine ld_6 SL hS9 hl9 F hZ hC hP hD hS hl (fun SL hS9 u H locs ls hC hP hD hS hl => ?_)
  refine ld_7 SL hS9 hl9 F hZ hC hP hD hS hl (fun SL hS9 u H locs ls hC hP hD hS hl => ?_)
  refine ld_8 SL hS9 hl9 F hZ hC hP hD hS hl (fun SL hS9 u H locs ls hC hP hD hS hl => ?_)
  refine ld_9 SL hS9 hl9 F hZ hC hP hD hS hl (fun SL hS9 u H locs ls hC hP hD hS hl => ?_)
  refine lv_iconst (v := nI 1) hx hb dL_lands_1063 (by decide) ?_
  refine lv_goto (tgt := 1068) hx hb dL_lands_1064 (by decide) ?_
  exact gRi F dL_lands_1068 (gNarZ (by decide)) () rfl (fun k q h => by simp at h) ⟨fun i j p q h => by simp at h, fun k q h => by simp at h⟩ hS (Nat.le_of_ble_eq_true rfl) (Nat.le_of_ble_eq_true rfl)

/-! OWN: refusesOne, refused -/
theorem lcmp_self (x : Int64) : lg_cmp x x = 0 := by
  unfold lg_cmp
  rw [if_neg (fun h => absurd h (Int64.lt_irrefl)), if_pos rfl]
set_option maxHeartbeats 8000000 in
set_option maxRecDepth 100000 in
theorem c_refusesOne (l : Launch) (G : gG) (lq : Nat) (S : SpT) (k : Nat) (hS9 : spS S) (hk : k < 4) (hl9 : l.stackTraces = false) (hb0 : S.2.2.2.2 = 0) : LW l G lq yL_refusesOne wsL_refusesOne { frames := 10, cells := 220, slots := 27500, locals := 260 } [.int (nI k)] S (nI 1) S 220 27500 := by
  intro wv hC
  refine gMetP_mk (cc := cL_refusesOne) (nL := 8) (ret := some .boolean) (Qc := fun A => va_Qi (S := va_W) (fun r' u => r' = nI 1 ∧ clS G lq u S) (gB G A (fun u => u)) A) (by decide) rfl (Nat.le_of_ble_eq_true rfl) ?_
  intro p e s m args below meth c A F hZ ls hl hP hD hS
  have hx := F.1
  have hb := F.2.1
  have hts := F.2.2.2.2.2.2.1
  have hown : s.vm.findClass RL = some m.cls := F.2.2.2.2.2.1
  have hKK := F.2.2.2.2.2.2.2.2.1
  have hl : lv_has ls 8 [(0, .ref lq), (1, .int (nI k))] := hl
  have hP : va_P G.1 vwCl (wv ++ []) s.heap := by rw [List.append_nil]; exact hP
  have hD : va_D A (wv ++ []) := by rw [List.append_nil]; exact hD
  generalize hH : s.heap = H at hP ⊢
  have hS0 : va_S A s.heap H [] := by rw [← hH]; exact va_S.rf
  clear hS
  have hS := hS0
  clear hS0
  generalize hLo : ([] : List Loc) = locs at hS ⊢
  refine lv_iload_n hx hb dL_refusesOne_0 rfl (lv_at hl 1 rfl) ?_
  refine lv_iconst (v := nI 0) hx hb dL_refusesOne_1 (by decide) ?_
  refine lv_bipush (v := nI 15) hx hb dL_refusesOne_2 (by decide) ?_
  refine lqN (own := RL) (index := 147) (bytes := cL_far) (n := 3) (As := [.int (nI k), .int (nI 0), .int (nI 15)]) (rest := []) (c2 := 0) (s2 := 0) F hZ (c_farN l G k 0 15 hk) gL_refusesOne_L_far rfl rfl rfl rfl (by decide +kernel) rfl ⟨Nat.le_of_ble_eq_true rfl, Nat.le_of_ble_eq_true rfl⟩ hP hD hS rfl hl.1 (Nat.le_of_ble_eq_true rfl) dL_refusesOne_4 ⟨Nat.le_of_ble_eq_true rfl, Nat.le_of_ble_eq_true rfl⟩ ⟨Nat.le_of_ble_eq_true rfl, Nat.le_of_ble_eq_true rfl⟩ (fun r4 H locs hp4 hP hD hS => ?_)
  subst hp4
  refine lv_istore_n (lv' := [(2, .int (zI (fr k 0 15))), (0, .ref lq), (1, .int (nI k))]) hx hb dL_refusesOne_7 rfl hl (by decide) rfl (fun ls hl => ?_)
  refine lv_iload_n hx hb dL_refusesOne_8 rfl (lv_at hl 2 rfl) ?_
  refine lv_iconst (v := nI 0) hx hb dL_refusesOne_9 (by decide) ?_
  refine lv_bipush (v := nI 7) hx hb dL_refusesOne_10 (by decide) ?_
  refine lqN (own := RL) (index := 147) (bytes := cL_far) (n := 3) (As := [.int (nI k), .int (nI 0), .int (nI 7)]) (rest := []) (c2 := 0) (s2 := 0) F hZ (c_farN l G k 0 7 hk) gL_refusesOne_L_far rfl rfl rfl rfl (by decide +kernel) rfl ⟨Nat.le_of_ble_eq_true rfl, Nat.le_of_ble_eq_true rfl⟩ hP hD hS rfl hl.1 (Nat.le_of_ble_eq_true rfl) dL_refusesOne_12 ⟨Nat.le_of_ble_eq_true rfl, Nat.le_of_ble_eq_true rfl⟩ ⟨Nat.le_of_ble_eq_true rfl, Nat.le_of_ble_eq_true rfl⟩ (fun r12 H locs hp12 hP hD hS => ?_)
  subst hp12
  refine lv_istore_n (lv' := [(3, .int (zI (fr k 0 7))), (2, .int (zI (fr k 0 15))), (0, .ref lq), (1, .int (nI k))]) hx hb dL_refusesOne_15 rfl hl (by decide) rfl (fun ls hl => ?_)
  refine lv_iload_n hx hb dL_refusesOne_16 rfl (lv_at hl 3 rfl) ?_
  refine lv_iconst (v := nI 1) hx hb dL_refusesOne_17 (by decide) ?_
  refine lv_bipush (v := nI 7) hx hb dL_refusesOne_18 (by decide) ?_
  refine lqN (own := RL) (index := 147) (bytes := cL_far) (n := 3) (As := [.int (nI k), .int (nI 1), .int (nI 7)]) (rest := []) (c2 := 0) (s2 := 0) F hZ (c_farN l G k 1 7 hk) gL_refusesOne_L_far rfl rfl rfl rfl (by decide +kernel) rfl ⟨Nat.le_of_ble_eq_true rfl, Nat.le_of_ble_eq_true rfl⟩ hP hD hS rfl hl.1 (Nat.le_of_ble_eq_true rfl) dL_refusesOne_20 ⟨Nat.le_of_ble_eq_true rfl, Nat.le_of_ble_eq_true rfl⟩ ⟨Nat.le_of_ble_eq_true rfl, Nat.le_of_ble_eq_true rfl⟩ (fun r20 H locs hp20 hP hD hS => ?_)
  subst hp20
  refine lv_istore (lv' := [(4, .int (zI (fr k 1 7))), (3, .int (zI (fr k 0 7))), (2, .int (zI (fr k 0 15))), (0, .ref lq), (1, .int (nI k))]) hx hb dL_refusesOne_23 hl (by decide) rfl (fun ls hl => ?_)
  have J25 : W p l e ({ frames := 10, cells := 220, slots := 27500, locals := 260 } : Room) s m args below meth c H locs 0 0 (MQ below (va_Qi (S := va_W) (fun r' u => r' = nI 1 ∧ clS G lq u S) (gB G A (fun u => u)) A) args s 220 27500 A) (F0 m 54 ls [.int (zI (szv k))]) → W p l e ({ frames := 10, cells := 220, slots := 27500, locals := 260 } : Room) s m args below meth c H locs 0 0 (MQ below (va_Qi (S := va_W) (fun r' u => r' = nI 1 ∧ clS G lq u S) (gB G A (fun u => u)) A) args s 220 27500 A) (F0 m 25 ls []) := by
    intro kk
    have hk4 : k = 0 ∨ k = 1 ∨ k = 2 ∨ k = 3 := by omega
    rcases hk4 with rfl | rfl | rfl | rfl
    · skip
      refine lv_iload_n hx hb dL_refusesOne_25 rfl (lv_at hl 4 rfl) ?_
      refine bZF_ne (tgt := 33) hx hb dL_refusesOne_26 (by decide) (by decide) ?_
      refine lv_iconst (v := nI 0) hx hb dL_refusesOne_29 (by decide) ?_
      refine lv_goto (tgt := 54) hx hb dL_refusesOne_30 (by decide) ?_
      rw [show zI (szv 0) = nI 0 from by decide] at kk
      exact kk
    · skip
      refine lv_iload_n hx hb dL_refusesOne_25 rfl (lv_at hl 4 rfl) ?_
      refine bZT_ne (tgt := 33) hx hb dL_refusesOne_26 (by decide) (by decide) ?_
      refine lv_iload_n hx hb dL_refusesOne_33 rfl (lv_at hl 4 rfl) ?_
      refine lv_iconst (v := nI 1) hx hb dL_refusesOne_34 (by decide) ?_
      refine bIF_ne (tgt := 42) hx hb dL_refusesOne_35 (by decide) (by decide) ?_
      refine lv_iconst (v := nI 3) hx hb dL_refusesOne_38 (by decide) ?_
      refine lv_goto (tgt := 54) hx hb dL_refusesOne_39 (by decide) ?_
      rw [show zI (szv 1) = nI 3 from by decide] at kk
      exact kk
    · skip
      refine lv_iload_n hx hb dL_refusesOne_25 rfl (lv_at hl 4 rfl) ?_
      refine bZT_ne (tgt := 33) hx hb dL_refusesOne_26 (by decide) (by decide) ?_
      refine lv_iload_n hx hb dL_refusesOne_33 rfl (lv_at hl 4 rfl) ?_
      refine lv_iconst (v := nI 1) hx hb dL_refusesOne_34 (by decide) ?_
      refine bIT_ne (tgt := 42) hx hb dL_refusesOne_35 (by decide) (by decide) ?_
      refine lv_iload_n hx hb dL_refusesOne_42 rfl (lv_at hl 4 rfl) ?_
      refine lv_iconst (v := nI 2) hx hb dL_refusesOne_43 (by decide) ?_
      refine bIF_ne (tgt := 52) hx hb dL_refusesOne_44 (by decide) (by decide) ?_
      refine lv_ldc (own := RL) (v := (-2147483648)) hx hb hown (hts (.constant RL 146 ((-2147483648))) (by decide +kernel)) dL_refusesOne_47 ?_
      refine W.eq (g2 := F0 m 49 ls [.int (zI (-2147483648))]) (congrArg (fun v_ => F0 m 49 ls [v_]) (show (.int (-2147483648) : Value) = .int (zI (-2147483648)) from by rfl)) ?_
      refine lv_goto (tgt := 54) hx hb dL_refusesOne_49 (by decide) ?_
      rw [show zI (szv 2) = zI (-2147483648) from by decide] at kk
      exact kk
    · skip
      refine lv_iload_n hx hb dL_refusesOne_25 rfl (lv_at hl 4 rfl) ?_
      refine bZT_ne (tgt := 33) hx hb dL_refusesOne_26 (by decide) (by decide) ?_
      refine lv_iload_n hx hb dL_refusesOne_33 rfl (lv_at hl 4 rfl) ?_
      refine lv_iconst (v := nI 1) hx hb dL_refusesOne_34 (by decide) ?_
      refine bIT_ne (tgt := 42) hx hb dL_refusesOne_35 (by decide) (by decide) ?_
      refine lv_iload_n hx hb dL_refusesOne_42 rfl (lv_at hl 4 rfl) ?_
      refine lv_iconst (v := nI 2) hx hb dL_refusesOne_43 (by decide) ?_
      refine bIT_ne (tgt := 52) hx hb dL_refusesOne_44 (by decide) (by decide) ?_
      refine lv_bipush (v := nI 32) hx hb dL_refusesOne_52 (by decide) ?_
      rw [show zI (szv 3) = nI 32 from by decide] at kk
      exact kk
  refine J25 ?_
  refine lv_istore (lv' := [(5, .int (zI (szv k))), (4, .int (zI (fr k 1 7))), (3, .int (zI (fr k 0 7))), (2, .int (zI (fr k 0 15))), (0, .ref lq), (1, .int (nI k))]) hx hb dL_refusesOne_54 hl (by decide) rfl (fun ls hl => ?_)
  have hl : lv_has ls 8 [(5, .int (zI (szv k))), (4, .int (zI (fr k 1 7))), (3, .int (zI (fr k 0 7))), (2, .int (zI (fr k 0 15))), (0, .ref lq), (1, .int (nI k))] := lv_sub hl [0, 1, 2, 3, 4, 5] rfl
  refine rfs_0 S k hS9 hk hl9 hb0 F hZ hC hP hD hS hl (fun u H locs ls hC hP hD hS hl => ?_)
  refine rfs_1 S k hS9 hk hl9 hb0 F hZ hC hP hD hS hl (fun u H locs ls hC hP hD hS hl => ?_)
  refine rfs_2 S k hS9 hk hl9 hb0 F hZ hC hP hD hS hl (fun u H locs ls hC hP hD hS hl => ?_)
  refine lv_bipush (v := nI 12) hx hb dL_refusesOne_464 (by decide) ?_
  refine lv_istore (lv' := [(6, .int (nI 12)), (5, .int (zI (szv k))), (4, .int (zI (fr k 1 7))), (3, .int (zI (fr k 0 7))), (2, .int (zI (fr k 0 15))), (0, .ref lq), (1, .int (nI k))]) hx hb dL_refusesOne_466 hl (by decide) rfl (fun ls hl => ?_)
  have hl : lv_has ls 8 [(6, .int (nI 12)), (5, .int (zI (szv k))), (4, .int (zI (fr k 1 7))), (3, .int (zI (fr k 0 7))), (2, .int (zI (fr k 0 15))), (0, .ref lq), (1, .int (nI k))] := lv_sub hl [0, 1, 2, 3, 4, 5, 6] rfl
  refine rfl_12 S k hS9 hk hl9 hb0 F hZ hC hP hD hS hl (fun u H locs ls hC hP hD hS hl => ?_)
  refine rfl_13 S k hS9 hk hl9 hb0 F hZ hC hP hD hS hl (fun u H locs ls hC hP hD hS hl => ?_)
  refine rfl_14 S k hS9 hk hl9 hb0 F hZ hC hP hD hS hl (fun u H locs ls hC hP hD hS hl => ?_)
  refine rfl_15 S k hS9 hk hl9 hb0 F hZ hC hP hD hS hl (fun u H locs ls hC hP hD hS hl => ?_)
  refine rfl_16 S k hS9 hk hl9 hb0 F hZ hC hP hD hS hl (fun u H locs ls hC hP hD hS hl => ?_)
  refine lv_iload hx hb dL_refusesOne_468 (lv_at hl 0 rfl) ?_
  refine lv_bipush (v := nI 17) hx hb dL_refusesOne_470 (by decide) ?_
  refine bIT_ge (tgt := 516) hx hb dL_refusesOne_472 (by decide) (by decide) ?_
  refine lv_bipush (v := nI 17) hx hb dL_refusesOne_516 (by decide) ?_
  refine lv_istore (lv' := [(6, .int (nI 17)), (5, .int (zI (szv k))), (4, .int (zI (fr k 1 7))), (3, .int (zI (fr k 0 7))), (2, .int (zI (fr k 0 15))), (0, .ref lq), (1, .int (nI k))]) hx hb dL_refusesOne_518 hl (by decide) rfl (fun ls hl => ?_)
  have hl : lv_has ls 8 [(6, .int (nI 17)), (5, .int (zI (szv k))), (4, .int (zI (fr k 1 7))), (3, .int (zI (fr k 0 7))), (2, .int (zI (fr k 0 15))), (0, .ref lq), (1, .int (nI k))] := lv_sub hl [0, 1, 2, 3, 4, 5, 6] rfl
  refine rfl_17 S k hS9 hk hl9 hb0 F hZ hC hP hD hS hl (fun u H locs ls hC hP hD hS hl => ?_)
  refine rfl_18 S k hS9 hk hl9 hb0 F hZ hC hP hD hS hl (fun u H locs ls hC hP hD hS hl => ?_)
  refine rfl_19 S k hS9 hk hl9 hb0 F hZ hC hP hD hS hl (fun u H locs ls hC hP hD hS hl => ?_)
  refine rfl_20 S k hS9 hk hl9 hb0 F hZ hC hP hD hS hl (fun u H locs ls hC hP hD hS hl => ?_)
  refine rfl_21 S k hS9 hk hl9 hb0 F hZ hC hP hD hS hl (fun u H locs ls hC hP hD hS hl => ?_)
  refine rfl_22 S k hS9 hk hl9 hb0 F hZ hC hP hD hS hl (fun u H locs ls hC hP hD hS hl => ?_)
  refine rfl_23 S k hS9 hk hl9 hb0 F hZ hC hP hD hS hl (fun u H locs ls hC hP hD hS hl => ?_)
  refine rfl_24 S k hS9 hk hl9 hb0 F hZ hC hP hD hS hl (fun u H locs ls hC hP hD hS hl => ?_)
  refine rfl_25 S k hS9 hk hl9 hb0 F hZ hC hP hD hS hl (fun u H locs ls hC hP hD hS hl => ?_)
  refine rfl_26 S k hS9 hk hl9 hb0 F hZ hC hP hD hS hl (fun u H locs ls hC hP hD hS hl => ?_)
  refine rfl_27 S k hS9 hk hl9 hb0 F hZ hC hP hD hS hl (fun u H locs ls hC hP hD hS hl => ?_)
  refine rfl_28 S k hS9 hk hl9 hb0 F hZ hC hP hD hS hl (fun u H locs ls hC hP hD hS hl => ?_)
  refine lv_iload hx hb dL_refusesOne_520 (lv_at hl 0 rfl) ?_
  refine lv_bipush (v := nI 29) hx hb dL_refusesOne_522 (by decide) ?_
  refine bIT_ge (tgt := 606) hx hb dL_refusesOne_524 (by decide) (by decide) ?_
  refine lv_aload_n hx hb dL_refusesOne_606 rfl (lv_at hl 5 rfl) ?_
  refine lv_bipush (v := nI 26) hx hb dL_refusesOne_607 (by decide) ?_
  refine lv_iload_n hx hb dL_refusesOne_609 rfl (lv_at hl 3 rfl) ?_
  refine lv_iconst (v := nI 0) hx hb dL_refusesOne_610 (by decide) ?_
  refine lv_iconst (v := nI 0) hx hb dL_refusesOne_611 (by decide) ?_
  refine lv_iconst (v := nI 0) hx hb dL_refusesOne_612 (by decide) ?_
  refine lqSW (own := RL) (index := 150) (bytes := cL_call) (n := 6) (As := [.int (nI 26), .int (zI (fr k 0 7)), .int (nI 0), .int (nI 0), .int (nI 0)]) (rest := []) (c2 := 188) (s2 := 24816) F hZ (call_26 l G lq S S (zI (fr k 0 7)) (nI 0) (nI 0) (nI 0) (-2011) (owned_26 l G lq S S (zI (fr k 0 7)) (nI 0) (-2011) (rf_613 l G lq S k hS9 hk hl9))) hC gL_refusesOne_L_call rfl rfl rfl rfl (by decide +kernel) rfl ⟨Nat.le_of_ble_eq_true rfl, Nat.le_of_ble_eq_true rfl⟩ hP hD hS rfl hl.1 (Nat.le_of_ble_eq_true rfl) dL_refusesOne_613 ⟨Nat.le_of_ble_eq_true rfl, Nat.le_of_ble_eq_true rfl⟩ ⟨Nat.le_of_ble_eq_true rfl, Nat.le_of_ble_eq_true rfl⟩ (fun u613 H locs hC hP hD hS => ?_)
  refine lv_sipush (v := zI (-2011)) hx hb dL_refusesOne_616 (by decide) ?_
  refine bIF_ne (tgt := 692) hx hb dL_refusesOne_619 (by decide) (by decide) ?_
  refine lv_aload_n hx hb dL_refusesOne_622 rfl (lv_at hl 5 rfl) ?_
  refine lv_bipush (v := nI 26) hx hb dL_refusesOne_623 (by decide) ?_
  refine lv_bipush (v := nI 7) hx hb dL_refusesOne_625 (by decide) ?_
  refine lv_iload_n hx hb dL_refusesOne_627 rfl (lv_at hl 6 rfl) ?_
  refine lv_iconst (v := nI 1) hx hb dL_refusesOne_628 (by decide) ?_
  refine lv_bipush (v := nI 10) hx hb dL_refusesOne_629 (by decide) ?_
  refine lqN (own := RL) (index := 147) (bytes := cL_far) (n := 3) (As := [.int (nI k), .int (nI 1), .int (nI 10)]) (rest := [.int (nI 7), .int (nI 26), .ref lq]) (c2 := 188) (s2 := 24816) F hZ (c_farN l G k 1 10 hk) gL_refusesOne_L_far rfl rfl rfl rfl (by decide +kernel) rfl ⟨Nat.le_of_ble_eq_true rfl, Nat.le_of_ble_eq_true rfl⟩ hP hD hS rfl hl.1 (Nat.le_of_ble_eq_true rfl) dL_refusesOne_631 ⟨Nat.le_of_ble_eq_true rfl, Nat.le_of_ble_eq_true rfl⟩ ⟨Nat.le_of_ble_eq_true rfl, Nat.le_of_ble_eq_true rfl⟩ (fun r631 H locs hp631 hP hD hS => ?_)
  subst hp631
  refine lv_iconst (v := nI 0) hx hb dL_refusesOne_634 (by decide) ?_
  refine lv_iconst (v := nI 0) hx hb dL_refusesOne_635 (by decide) ?_
  refine lqSW (own := RL) (index := 150) (bytes := cL_call) (n := 6) (As := [.int (nI 26), .int (nI 7), .int (zI (fr k 1 10)), .int (nI 0), .int (nI 0)]) (rest := []) (c2 := 192) (s2 := 25344) F hZ (call_26 l G lq S S (nI 7) (zI (fr k 1 10)) (nI 0) (nI 0) (-2012) (owned_26 l G lq S S (nI 7) (zI (fr k 1 10)) (-2012) (rf_636 l G lq S k hS9 hk hl9))) hC gL_refusesOne_L_call rfl rfl rfl rfl (by decide +kernel) rfl ⟨Nat.le_of_ble_eq_true rfl, Nat.le_of_ble_eq_true rfl⟩ hP hD hS rfl hl.1 (Nat.le_of_ble_eq_true rfl) dL_refusesOne_636 ⟨Nat.le_of_ble_eq_true rfl, Nat.le_of_ble_eq_true rfl⟩ ⟨Nat.le_of_ble_eq_true rfl, Nat.le_of_ble_eq_true rfl⟩ (fun u636 H locs hC hP hD hS => ?_)
  refine lv_sipush (v := zI (-2012)) hx hb dL_refusesOne_639 (by decide) ?_
  refine bIF_ne (tgt := 692) hx hb dL_refusesOne_642 (by decide) (by decide) ?_
  refine lv_aload_n hx hb dL_refusesOne_645 rfl (lv_at hl 5 rfl) ?_
  refine lv_bipush (v := nI 29) hx hb dL_refusesOne_646 (by decide) ?_
  refine lv_iload_n hx hb dL_refusesOne_648 rfl (lv_at hl 6 rfl) ?_
  refine lv_iconst (v := nI 1) hx hb dL_refusesOne_649 (by decide) ?_
  refine lv_bipush (v := nI 10) hx hb dL_refusesOne_650 (by decide) ?_
  refine lqN (own := RL) (index := 147) (bytes := cL_far) (n := 3) (As := [.int (nI k), .int (nI 1), .int (nI 10)]) (rest := [.int (nI 29), .ref lq]) (c2 := 192) (s2 := 25344) F hZ (c_farN l G k 1 10 hk) gL_refusesOne_L_far rfl rfl rfl rfl (by decide +kernel) rfl ⟨Nat.le_of_ble_eq_true rfl, Nat.le_of_ble_eq_true rfl⟩ hP hD hS rfl hl.1 (Nat.le_of_ble_eq_true rfl) dL_refusesOne_652 ⟨Nat.le_of_ble_eq_true rfl, Nat.le_of_ble_eq_true rfl⟩ ⟨Nat.le_of_ble_eq_true rfl, Nat.le_of_ble_eq_true rfl⟩ (fun r652 H locs hp652 hP hD hS => ?_)
  subst hp652
  refine lv_iconst (v := nI 0) hx hb dL_refusesOne_655 (by decide) ?_
  refine lv_iconst (v := nI 0) hx hb dL_refusesOne_656 (by decide) ?_
  refine lv_iconst (v := nI 0) hx hb dL_refusesOne_657 (by decide) ?_
  refine lqSW (own := RL) (index := 150) (bytes := cL_call) (n := 6) (As := [.int (nI 29), .int (zI (fr k 1 10)), .int (nI 0), .int (nI 0), .int (nI 0)]) (rest := []) (c2 := 196) (s2 := 25872) F hZ (call_29 l G lq S S (zI (fr k 1 10)) (nI 0) (nI 0) (nI 0) (-2012) (rf_658 l G lq S k hS9 hk hl9)) hC gL_refusesOne_L_call rfl rfl rfl rfl (by decide +kernel) rfl ⟨Nat.le_of_ble_eq_true rfl, Nat.le_of_ble_eq_true rfl⟩ hP hD hS rfl hl.1 (Nat.le_of_ble_eq_true rfl) dL_refusesOne_658 ⟨Nat.le_of_ble_eq_true rfl, Nat.le_of_ble_eq_true rfl⟩ ⟨Nat.le_of_ble_eq_true rfl, Nat.le_of_ble_eq_true rfl⟩ (fun u658 H locs hC hP hD hS => ?_)
  refine lv_sipush (v := zI (-2012)) hx hb dL_refusesOne_661 (by decide) ?_
  refine bIF_ne (tgt := 692) hx hb dL_refusesOne_664 (by decide) (by decide) ?_
  refine lv_aload_n hx hb dL_refusesOne_667 rfl (lv_at hl 5 rfl) ?_
  refine lv_iload_n hx hb dL_refusesOne_668 rfl (lv_at hl 6 rfl) ?_
  refine lv_iconst (v := nI 0) hx hb dL_refusesOne_669 (by decide) ?_
  refine lv_aload_n hx hb dL_refusesOne_670 rfl (lv_at hl 5 rfl) ?_
  refine lqV (own := RL) (index := 128) (bytes := cX3_plots) (n := 0) (As := []) (rest := [.int (nI 0), .int (nI k), .ref lq]) (c2 := 196) (s2 := 25872) F (K_plots l G lq S  hS9 ) hC gL_refusesOne_X3_plots rfl rfl rfl rfl (by decide +kernel) rfl ⟨Nat.le_of_ble_eq_true rfl, Nat.le_of_ble_eq_true rfl⟩ hP hD hS rfl hl.1 (Nat.le_of_ble_eq_true rfl) dL_refusesOne_671 ⟨Nat.le_of_ble_eq_true rfl, Nat.le_of_ble_eq_true rfl⟩ ⟨Nat.le_of_ble_eq_true rfl, Nat.le_of_ble_eq_true rfl⟩ (fun u671 H locs hC hP hD hS => ?_)
  refine lv_iconst (v := nI 1) hx hb dL_refusesOne_674 (by decide) ?_
  refine gIsub (a := cnt S.1.1) (b := 1) hx hb dL_refusesOne_675 (by have := (cnt_le S.1.1).1; omega) ?_
  refine lqN (own := RL) (index := 147) (bytes := cL_far) (n := 3) (As := [.int (nI k), .int (nI 0), .int (nI ((cnt S.1.1) - 1))]) (rest := [.ref lq]) (c2 := 196) (s2 := 25872) F hZ (c_farN l G k 0 ((cnt S.1.1) - 1) hk) gL_refusesOne_L_far rfl rfl rfl rfl (by decide +kernel) rfl ⟨Nat.le_of_ble_eq_true rfl, Nat.le_of_ble_eq_true rfl⟩ hP hD hS rfl hl.1 (Nat.le_of_ble_eq_true rfl) dL_refusesOne_676 ⟨Nat.le_of_ble_eq_true rfl, Nat.le_of_ble_eq_true rfl⟩ ⟨Nat.le_of_ble_eq_true rfl, Nat.le_of_ble_eq_true rfl⟩ (fun r676 H locs hp676 hP hD hS => ?_)
  subst hp676
  refine lqSW (own := RL) (index := 154) (bytes := cL_plot) (n := 2) (As := [.int (zI (fr k 0 (((cnt S.1.1) - 1 : Nat) : Int)))]) (rest := []) (c2 := 197) (s2 := 25878) F hZ (c_plotX l G lq S (fr k 0 (((cnt S.1.1) - 1 : Nat) : Int)) hS9 (by have h9 := fr_b k (lo := 0) (hi := ((cnt S.1.1 - 1 : Nat) : Int)) (by decide) (by have := (cnt_le S.1.1).2; omega) (by omega); exact h9) (by have h9 := fr_out k (lo := 0) (hi := ((cnt S.1.1 - 1 : Nat) : Int)) (by decide) (by have := (cnt_le S.1.1).2; omega) (by omega); have := (cnt_le S.1.1).1; omega) hl9) hC gL_refusesOne_L_plot rfl rfl rfl rfl (by decide +kernel) rfl ⟨Nat.le_of_ble_eq_true rfl, Nat.le_of_ble_eq_true rfl⟩ hP hD hS rfl hl.1 (Nat.le_of_ble_eq_true rfl) dL_refusesOne_679 ⟨Nat.le_of_ble_eq_true rfl, Nat.le_of_ble_eq_true rfl⟩ ⟨Nat.le_of_ble_eq_true rfl, Nat.le_of_ble_eq_true rfl⟩ (fun u679 H locs hC hP hD hS => ?_)
  refine lv_sipush (v := zI (-2011)) hx hb dL_refusesOne_682 (by decide) ?_
  refine bIF_ne (tgt := 692) hx hb dL_refusesOne_685 (by decide) (by decide) ?_
  refine lv_iconst (v := nI 1) hx hb dL_refusesOne_688 (by decide) ?_
  refine lv_goto (tgt := 693) hx hb dL_refusesOne_689 (by decide) ?_
  exact gRi F dL_refusesOne_693 (gNarZ (by decide)) u679 ⟨rfl, hC⟩ (gPl hP) (gDl hD) hS (Nat.le_of_ble_eq_true rfl) (Nat.le_of_ble_eq_true rfl)
set_option maxHeartbeats 8000000 in
set_option maxRecDepth 100000 in
theorem c_refused (l : Launch) (G : gG) (lq : Nat) (S : SpT) (hS9 : spS S) (hb0 : S.2.2.2.2 = 0) (hl9 : l.stackTraces = false) : LW l G lq yL_refused wsL_refused { frames := 11, cells := 1000, slots := 120000, locals := 290 } [] S (nI 1) S 1000 120000 := by
  intro wv hC
  refine gMetP_mk (cc := cL_refused) (nL := 5) (ret := some .boolean) (Qc := fun A => va_Qi (S := va_W) (fun r' u => r' = nI 1 ∧ clS G lq u S) (gB G A (fun u => u)) A) (by decide) rfl (Nat.le_of_ble_eq_true rfl) ?_
  intro p e s m args below meth c A F hZ ls hl hP hD hS
  have hx := F.1
  have hb := F.2.1
  have hts := F.2.2.2.2.2.2.1
  have hown : s.vm.findClass RL = some m.cls := F.2.2.2.2.2.1
  have hKK := F.2.2.2.2.2.2.2.2.1
  have hl : lv_has ls 5 [(0, .ref lq)] := hl
  have hP : va_P G.1 vwCl (wv ++ []) s.heap := by rw [List.append_nil]; exact hP
  have hD : va_D A (wv ++ []) := by rw [List.append_nil]; exact hD
  generalize hH : s.heap = H at hP ⊢
  have hS0 : va_S A s.heap H [] := by rw [← hH]; exact va_S.rf
  clear hS
  have hS := hS0
  clear hS0
  generalize hLo : ([] : List Loc) = locs at hS ⊢
  refine lv_aload_n hx hb dL_refused_0 rfl (lv_at hl 0 rfl) ?_
  refine lqL (own := RL) (index := 170) (bytes := cL_seen) (n := 1) (As := []) (rest := []) (c2 := 0) (s2 := 0) F hZ (c_seen l G lq S hS9) hC gL_refused_L_seen rfl rfl rfl rfl (by decide +kernel) rfl ⟨Nat.le_of_ble_eq_true rfl, Nat.le_of_ble_eq_true rfl⟩ hP hD hS rfl hl.1 (Nat.le_of_ble_eq_true rfl) dL_refused_1 ⟨Nat.le_of_ble_eq_true rfl, Nat.le_of_ble_eq_true rfl⟩ ⟨Nat.le_of_ble_eq_true rfl, Nat.le_of_ble_eq_true rfl⟩ (fun u1 H locs hC hP hD hS => ?_)
  refine lv_lstore_n (lv' := [(1, .long (sn S.1)), (0, .ref lq)]) hx hb dL_refused_4 rfl hl (by decide) rfl (fun ls hl => ?_)
  refine lv_aload_n hx hb dL_refused_5 rfl (lv_at hl 1 rfl) ?_
  refine lqV (own := RL) (index := 174) (bytes := cX3_savedStates) (n := 0) (As := []) (rest := []) (c2 := 0) (s2 := 0) F (K_savedStates l G lq S  hS9 ) hC gL_refused_X3_savedStates rfl rfl rfl rfl (by decide +kernel) rfl ⟨Nat.le_of_ble_eq_true rfl, Nat.le_of_ble_eq_true rfl⟩ hP hD hS rfl hl.1 (Nat.le_of_ble_eq_true rfl) dL_refused_6 ⟨Nat.le_of_ble_eq_true rfl, Nat.le_of_ble_eq_true rfl⟩ ⟨Nat.le_of_ble_eq_true rfl, Nat.le_of_ble_eq_true rfl⟩ (fun u6 H locs hC hP hD hS => ?_)
  refine lv_istore_n (lv' := [(3, .int (nI S.2.1.length)), (1, .long (sn S.1)), (0, .ref lq)]) hx hb dL_refused_9 rfl hl (by decide) rfl (fun ls hl => ?_)
  refine lv_iconst (v := nI 0) hx hb dL_refused_10 (by decide) ?_
  refine lv_istore (lv' := [(4, .int (nI 0)), (3, .int (nI S.2.1.length)), (1, .long (sn S.1)), (0, .ref lq)]) hx hb dL_refused_11 hl (by decide) rfl (fun ls hl => ?_)
  refine lv_iload hx hb dL_refused_13 (lv_at hl 0 rfl) ?_
  refine lv_iconst (v := nI 4) hx hb dL_refused_15 (by decide) ?_
  refine bIF_ge (tgt := 36) hx hb dL_refused_16 (by decide) (by decide) ?_
  refine lv_aload_n hx hb dL_refused_19 rfl (lv_at hl 3 rfl) ?_
  refine lv_iload hx hb dL_refused_20 (lv_at hl 0 rfl) ?_
  refine lqS (own := RL) (index := 177) (bytes := cL_refusesOne) (n := 2) (As := [.int (nI 0)]) (rest := []) (c2 := 220) (s2 := 27500) F hZ (c_refusesOne l G lq S 0 hS9 (by decide) hl9 hb0) hC gL_refused_L_refusesOne rfl rfl rfl rfl (by decide +kernel) rfl ⟨Nat.le_of_ble_eq_true rfl, Nat.le_of_ble_eq_true rfl⟩ hP hD hS rfl hl.1 (Nat.le_of_ble_eq_true rfl) dL_refused_22 ⟨Nat.le_of_ble_eq_true rfl, Nat.le_of_ble_eq_true rfl⟩ ⟨Nat.le_of_ble_eq_true rfl, Nat.le_of_ble_eq_true rfl⟩ (fun u22 H locs hC hP hD hS => ?_)
  refine bZT_ne (tgt := 30) hx hb dL_refused_25 (by decide) (by decide) ?_
  refine lv_iinc (v := nI 1) (lv' := [(4, .int (nI 1)), (3, .int (nI S.2.1.length)), (1, .long (sn S.1)), (0, .ref lq)]) hx hb dL_refused_30 hl (k := 0) rfl (by rfl) (by decide) rfl (fun ls hl => ?_)
  refine lv_goto (tgt := 13) hx hb dL_refused_33 (by decide) ?_
  refine lv_iload hx hb dL_refused_13 (lv_at hl 0 rfl) ?_
  refine lv_iconst (v := nI 4) hx hb dL_refused_15 (by decide) ?_
  refine bIF_ge (tgt := 36) hx hb dL_refused_16 (by decide) (by decide) ?_
  refine lv_aload_n hx hb dL_refused_19 rfl (lv_at hl 3 rfl) ?_
  refine lv_iload hx hb dL_refused_20 (lv_at hl 0 rfl) ?_
  refine lqS (own := RL) (index := 177) (bytes := cL_refusesOne) (n := 2) (As := [.int (nI 1)]) (rest := []) (c2 := 440) (s2 := 55000) F hZ (c_refusesOne l G lq S 1 hS9 (by decide) hl9 hb0) hC gL_refused_L_refusesOne rfl rfl rfl rfl (by decide +kernel) rfl ⟨Nat.le_of_ble_eq_true rfl, Nat.le_of_ble_eq_true rfl⟩ hP hD hS rfl hl.1 (Nat.le_of_ble_eq_true rfl) dL_refused_22 ⟨Nat.le_of_ble_eq_true rfl, Nat.le_of_ble_eq_true rfl⟩ ⟨Nat.le_of_ble_eq_true rfl, Nat.le_of_ble_eq_true rfl⟩ (fun u22 H locs hC hP hD hS => ?_)
  refine bZT_ne (tgt := 30) hx hb dL_refused_25 (by decide) (by decide) ?_
  refine lv_iinc (v := nI 2) (lv' := [(4, .int (nI 2)), (3, .int (nI S.2.1.length)), (1, .long (sn S.1)), (0, .ref lq)]) hx hb dL_refused_30 hl (k := 0) rfl (by rfl) (by decide) rfl (fun ls hl => ?_)
  refine lv_goto (tgt := 13) hx hb dL_refused_33 (by decide) ?_
  refine lv_iload hx hb dL_refused_13 (lv_at hl 0 rfl) ?_
  refine lv_iconst (v := nI 4) hx hb dL_refused_15 (by decide) ?_
  refine bIF_ge (tgt := 36) hx hb dL_refused_16 (by decide) (by decide) ?_
  refine lv_aload_n hx hb dL_refused_19 rfl (lv_at hl 3 rfl) ?_
  refine lv_iload hx hb dL_refused_20 (lv_at hl 0 rfl) ?_
  refine lqS (own := RL) (index := 177) (bytes := cL_refusesOne) (n := 2) (As := [.int (nI 2)]) (rest := []) (c2 := 660) (s2 := 82500) F hZ (c_refusesOne l G lq S 2 hS9 (by decide) hl9 hb0) hC gL_refused_L_refusesOne rfl rfl rfl rfl (by decide +kernel) rfl ⟨Nat.le_of_ble_eq_true rfl, Nat.le_of_ble_eq_true rfl⟩ hP hD hS rfl hl.1 (Nat.le_of_ble_eq_true rfl) dL_refused_22 ⟨Nat.le_of_ble_eq_true rfl, Nat.le_of_ble_eq_true rfl⟩ ⟨Nat.le_of_ble_eq_true rfl, Nat.le_of_ble_eq_true rfl⟩ (fun u22 H locs hC hP hD hS => ?_)
  refine bZT_ne (tgt := 30) hx hb dL_refused_25 (by decide) (by decide) ?_
  refine lv_iinc (v := nI 3) (lv' := [(4, .int (nI 3)), (3, .int (nI S.2.1.length)), (1, .long (sn S.1)), (0, .ref lq)]) hx hb dL_refused_30 hl (k := 0) rfl (by rfl) (by decide) rfl (fun ls hl => ?_)
  refine lv_goto (tgt := 13) hx hb dL_refused_33 (by decide) ?_
  refine lv_iload hx hb dL_refused_13 (lv_at hl 0 rfl) ?_
  refine lv_iconst (v := nI 4) hx hb dL_refused_15 (by decide) ?_
  refine bIF_ge (tgt := 36) hx hb dL_refused_16 (by decide) (by decide) ?_
  refine lv_aload_n hx hb dL_refused_19 rfl (lv_at hl 3 rfl) ?_
  refine lv_iload hx hb dL_refused_20 (lv_at hl 0 rfl) ?_
  refine lqS (own := RL) (index := 177) (bytes := cL_refusesOne) (n := 2) (As := [.int (nI 3)]) (rest := []) (c2 := 880) (s2 := 110000) F hZ (c_refusesOne l G lq S 3 hS9 (by decide) hl9 hb0) hC gL_refused_L_refusesOne rfl rfl rfl rfl (by decide +kernel) rfl ⟨Nat.le_of_ble_eq_true rfl, Nat.le_of_ble_eq_true rfl⟩ hP hD hS rfl hl.1 (Nat.le_of_ble_eq_true rfl) dL_refused_22 ⟨Nat.le_of_ble_eq_true rfl, Nat.le_of_ble_eq_true rfl⟩ ⟨Nat.le_of_ble_eq_true rfl, Nat.le_of_ble_eq_true rfl⟩ (fun u22 H locs hC hP hD hS => ?_)
  refine bZT_ne (tgt := 30) hx hb dL_refused_25 (by decide) (by decide) ?_
  refine lv_iinc (v := nI 4) (lv' := [(4, .int (nI 4)), (3, .int (nI S.2.1.length)), (1, .long (sn S.1)), (0, .ref lq)]) hx hb dL_refused_30 hl (k := 0) rfl (by rfl) (by decide) rfl (fun ls hl => ?_)
  refine lv_goto (tgt := 13) hx hb dL_refused_33 (by decide) ?_
  refine lv_iload hx hb dL_refused_13 (lv_at hl 0 rfl) ?_
  refine lv_iconst (v := nI 4) hx hb dL_refused_15 (by decide) ?_
  refine bIT_ge (tgt := 36) hx hb dL_refused_16 (by decide) (by decide) ?_
  refine lv_aload_n hx hb dL_refused_36 rfl (lv_at hl 3 rfl) ?_
  refine lqL (own := RL) (index := 170) (bytes := cL_seen) (n := 1) (As := []) (rest := []) (c2 := 880) (s2 := 110000) F hZ (c_seen l G lq S hS9) hC gL_refused_L_seen rfl rfl rfl rfl (by decide +kernel) rfl ⟨Nat.le_of_ble_eq_true rfl, Nat.le_of_ble_eq_true rfl⟩ hP hD hS rfl hl.1 (Nat.le_of_ble_eq_true rfl) dL_refused_37 ⟨Nat.le_of_ble_eq_true rfl, Nat.le_of_ble_eq_true rfl⟩ ⟨Nat.le_of_ble_eq_true rfl, Nat.le_of_ble_eq_true rfl⟩ (fun u37 H locs hC hP hD hS => ?_)
  refine lv_lload_n hx hb dL_refused_40 rfl (lv_at hl 2 rfl) ?_
  refine W.lcmp hx hb dL_refused_41 ?_
  refine W.eq (g2 := F0 m 42 ls [.int (nI 0)]) (congrArg (fun v_ => F0 m 42 ls [v_]) (show (.int (lg_cmp (sn S.1) (sn S.1)) : Value) = .int (nI 0) from congrArg Value.int (lcmp_self _))) ?_
  refine bZF_ne (tgt := 57) hx hb dL_refused_42 (by decide) (by decide) ?_
  refine lv_aload_n hx hb dL_refused_45 rfl (lv_at hl 3 rfl) ?_
  refine lqV (own := RL) (index := 174) (bytes := cX3_savedStates) (n := 0) (As := []) (rest := []) (c2 := 880) (s2 := 110000) F (K_savedStates l G lq S  hS9 ) hC gL_refused_X3_savedStates rfl rfl rfl rfl (by decide +kernel) rfl ⟨Nat.le_of_ble_eq_true rfl, Nat.le_of_ble_eq_true rfl⟩ hP hD hS rfl hl.1 (Nat.le_of_ble_eq_true rfl) dL_refused_46 ⟨Nat.le_of_ble_eq_true rfl, Nat.le_of_ble_eq_true rfl⟩ ⟨Nat.le_of_ble_eq_true rfl, Nat.le_of_ble_eq_true rfl⟩ (fun u46 H locs hC hP hD hS => ?_)
  refine lv_iload_n hx hb dL_refused_49 rfl (lv_at hl 1 rfl) ?_
  refine bIF_ne (tgt := 57) hx hb dL_refused_50 (by decide) (rfl) ?_
  refine lv_iconst (v := nI 1) hx hb dL_refused_53 (by decide) ?_
  refine lv_goto (tgt := 58) hx hb dL_refused_54 (by decide) ?_
  exact gRi F dL_refused_58 (gNarZ (by decide)) u46 ⟨rfl, hC⟩ (gPl hP) (gDl hD) hS (Nat.le_of_ble_eq_true rfl) (Nat.le_of_ble_eq_true rfl)

set_option maxHeartbeats 4000000 in
set_option maxRecDepth 100000 in
theorem c_X3_isCell (l : Launch) (G : gG) (x : Int) (y : Int) (hx : -2147483648 ≤ x ∧ x < 2147483648) (hy : -2147483648 ≤ y ∧ y < 2147483648) : gMi (S := Unit) l yX3_isCell wsX3_isCell { frames := 0, cells := 0, slots := 0, locals := 0 } G [.int (zI x), .int (zI y)] [] (fun (r : Int32) (u : Unit) => (r = nI (if (0 ≤ x ∧ x < 16 ∧ 0 ≤ y ∧ y < 16) then 1 else 0))) (fun u => []) 0 0 := by
  refine gMet_mk (cc := cX3_isCell) (nL := 2) (ret := (some .boolean)) (Qc := fun A => va_Qi (S := Unit) (fun (r : Int32) (u : Unit) => (r = nI (if (0 ≤ x ∧ x < 16 ∧ 0 ≤ y ∧ y < 16) then 1 else 0))) (gB G A (fun u => [])) A) (by decide) rfl (Nat.le_of_ble_eq_true rfl) ?_
  intro p e s m args below meth c A F ls hl hP hD hS
  have hx := F.1
  have hb := F.2.1
  have hts := F.2.2.2.2.2.2.1
  have hown : s.vm.findClass RX3 = some m.cls := F.2.2.2.2.2.1
  have hKK := F.2.2.2.2.2.2.2.2.1
  have hK := hKK.1
  have hin0 := F.2.2.2.2.2.2.2.1
  have hl : lv_has ls 2 [(0, .int (zI x)), (1, .int (zI y))] := hl
  generalize hH : s.heap = H at hP ⊢
  have hS : va_S A s.heap H [] := by rw [← hH]; exact va_S.rf
  generalize hLo : ([] : List Loc) = locs at hS ⊢
  refine lv_iload_n hx hb dX3_isCell_0 rfl (lv_at hl 0 rfl) ?_
  refine gZf_lt (a := x) (tgt := 24) hx hb dX3_isCell_1 (by decide) (by omega) (fun c1 => ?_) (fun c1 => ?_)
  · skip
    refine lv_iconst (v := nI 0) hx hb dX3_isCell_24 (by decide) ?_
    exact gRi F dX3_isCell_25 (gNarZ (by decide)) () (by first | rfl | (rw [if_pos (by omega)]) | (rw [if_neg (by omega)])) hP hD hS (Nat.le_refl _) (Nat.le_refl _)
  refine lv_iload_n hx hb dX3_isCell_4 rfl (lv_at hl 0 rfl) ?_
  refine lv_bipush (v := nI 16) hx hb dX3_isCell_5 (by decide) ?_
  refine W.eq (g2 := F0 m 7 ls [.int (zI ((16 : Nat) : Int)), .int (zI x)]) (by simp only [zI_nat]) ?_
  refine gZcmp_ge (a := x) (b := ((16 : Nat) : Int)) (tgt := 24) hx hb dX3_isCell_7 (by decide) (by omega) (by omega) (fun c7 => ?_) (fun c7 => ?_)
  · skip
    refine lv_iconst (v := nI 0) hx hb dX3_isCell_24 (by decide) ?_
    exact gRi F dX3_isCell_25 (gNarZ (by decide)) () (by first | rfl | (rw [if_pos (by omega)]) | (rw [if_neg (by omega)])) hP hD hS (Nat.le_refl _) (Nat.le_refl _)
  refine lv_iload_n hx hb dX3_isCell_10 rfl (lv_at hl 1 rfl) ?_
  refine gZf_lt (a := y) (tgt := 24) hx hb dX3_isCell_11 (by decide) (by omega) (fun c11 => ?_) (fun c11 => ?_)
  · skip
    refine lv_iconst (v := nI 0) hx hb dX3_isCell_24 (by decide) ?_
    exact gRi F dX3_isCell_25 (gNarZ (by decide)) () (by first | rfl | (rw [if_pos (by omega)]) | (rw [if_neg (by omega)])) hP hD hS (Nat.le_refl _) (Nat.le_refl _)
  refine lv_iload_n hx hb dX3_isCell_14 rfl (lv_at hl 1 rfl) ?_
  refine lv_bipush (v := nI 16) hx hb dX3_isCell_15 (by decide) ?_
  refine W.eq (g2 := F0 m 17 ls [.int (zI ((16 : Nat) : Int)), .int (zI y)]) (by simp only [zI_nat]) ?_
  refine gZcmp_ge (a := y) (b := ((16 : Nat) : Int)) (tgt := 24) hx hb dX3_isCell_17 (by decide) (by omega) (by omega) (fun c17 => ?_) (fun c17 => ?_)
  · skip
    refine lv_iconst (v := nI 0) hx hb dX3_isCell_24 (by decide) ?_
    exact gRi F dX3_isCell_25 (gNarZ (by decide)) () (by first | rfl | (rw [if_pos (by omega)]) | (rw [if_neg (by omega)])) hP hD hS (Nat.le_refl _) (Nat.le_refl _)
  refine lv_iconst (v := nI 1) hx hb dX3_isCell_20 (by decide) ?_
  refine lv_goto (tgt := 25) hx hb dX3_isCell_21 (by decide) ?_
  exact gRi F dX3_isCell_25 (gNarZ (by decide)) () (by first | rfl | (rw [if_pos (by omega)]) | (rw [if_neg (by omega)])) hP hD hS (Nat.le_refl _) (Nat.le_refl _)

set_option maxHeartbeats 4000000 in
set_option maxRecDepth 100000 in
theorem c_X3_isOwner (l : Launch) (G : gG) (o : Int) (ho : -2147483648 ≤ o ∧ o < 2147483648) : gMi (S := Unit) l yX3_isOwner wsX3_isOwner { frames := 0, cells := 0, slots := 0, locals := 0 } G [.int (zI o)] [] (fun (r : Int32) (u : Unit) => (r = nI (if (0 ≤ o ∧ o < 8) then 1 else 0))) (fun u => []) 0 0 := by
  refine gMet_mk (cc := cX3_isOwner) (nL := 1) (ret := (some .boolean)) (Qc := fun A => va_Qi (S := Unit) (fun (r : Int32) (u : Unit) => (r = nI (if (0 ≤ o ∧ o < 8) then 1 else 0))) (gB G A (fun u => [])) A) (by decide) rfl (Nat.le_of_ble_eq_true rfl) ?_
  intro p e s m args below meth c A F ls hl hP hD hS
  have hx := F.1
  have hb := F.2.1
  have hts := F.2.2.2.2.2.2.1
  have hown : s.vm.findClass RX3 = some m.cls := F.2.2.2.2.2.1
  have hKK := F.2.2.2.2.2.2.2.2.1
  have hK := hKK.1
  have hin0 := F.2.2.2.2.2.2.2.1
  have hl : lv_has ls 1 [(0, .int (zI o))] := hl
  generalize hH : s.heap = H at hP ⊢
  have hS : va_S A s.heap H [] := by rw [← hH]; exact va_S.rf
  generalize hLo : ([] : List Loc) = locs at hS ⊢
  refine lv_iload_n hx hb dX3_isOwner_0 rfl (lv_at hl 0 rfl) ?_
  refine gZf_lt (a := o) (tgt := 14) hx hb dX3_isOwner_1 (by decide) (by omega) (fun c1 => ?_) (fun c1 => ?_)
  · skip
    refine lv_iconst (v := nI 0) hx hb dX3_isOwner_14 (by decide) ?_
    exact gRi F dX3_isOwner_15 (gNarZ (by decide)) () (by first | rfl | (rw [if_pos (by omega)]) | (rw [if_neg (by omega)])) hP hD hS (Nat.le_refl _) (Nat.le_refl _)
  refine lv_iload_n hx hb dX3_isOwner_4 rfl (lv_at hl 0 rfl) ?_
  refine lv_bipush (v := nI 8) hx hb dX3_isOwner_5 (by decide) ?_
  refine W.eq (g2 := F0 m 7 ls [.int (zI ((8 : Nat) : Int)), .int (zI o)]) (by simp only [zI_nat]) ?_
  refine gZcmp_ge (a := o) (b := ((8 : Nat) : Int)) (tgt := 14) hx hb dX3_isOwner_7 (by decide) (by omega) (by omega) (fun c7 => ?_) (fun c7 => ?_)
  · skip
    refine lv_iconst (v := nI 0) hx hb dX3_isOwner_14 (by decide) ?_
    exact gRi F dX3_isOwner_15 (gNarZ (by decide)) () (by first | rfl | (rw [if_pos (by omega)]) | (rw [if_neg (by omega)])) hP hD hS (Nat.le_refl _) (Nat.le_refl _)
  refine lv_iconst (v := nI 1) hx hb dX3_isOwner_10 (by decide) ?_
  refine lv_goto (tgt := 15) hx hb dX3_isOwner_11 (by decide) ?_
  exact gRi F dX3_isOwner_15 (gNarZ (by decide)) () (by first | rfl | (rw [if_pos (by omega)]) | (rw [if_neg (by omega)])) hP hD hS (Nat.le_refl _) (Nat.le_refl _)

set_option maxHeartbeats 4000000 in
set_option maxRecDepth 100000 in
theorem c_X3_isSquare (l : Launch) (G : gG) (x : Int) (y : Int) (z : Int) (hx : -2147483648 ≤ x ∧ x < 2147483648) (hy : -2147483648 ≤ y ∧ y < 2147483648) (hz : -2147483648 ≤ z ∧ z < 2147483648) : gMi (S := Unit) l yX3_isSquare wsX3_isSquare { frames := 0, cells := 0, slots := 0, locals := 0 } G [.int (zI x), .int (zI y), .int (zI z)] [] (fun (r : Int32) (u : Unit) => (r = nI (if ((z = 1 ∨ z = 2 ∨ z = 4 ∨ z = 8 ∨ z = 16) ∧ 0 ≤ x ∧ x < 16 ∧ 0 ≤ y ∧ y < 16 ∧ x % z = 0 ∧ y % z = 0) then 1 else 0))) (fun u => []) 0 0 := by
  refine gMet_mk (cc := cX3_isSquare) (nL := 5) (ret := (some .boolean)) (Qc := fun A => va_Qi (S := Unit) (fun (r : Int32) (u : Unit) => (r = nI (if ((z = 1 ∨ z = 2 ∨ z = 4 ∨ z = 8 ∨ z = 16) ∧ 0 ≤ x ∧ x < 16 ∧ 0 ≤ y ∧ y < 16 ∧ x % z = 0 ∧ y % z = 0) then 1 else 0))) (gB G A (fun u => [])) A) (by decide) rfl (Nat.le_of_ble_eq_true rfl) ?_
  intro p e s m args below meth c A F ls hl hP hD hS
  have hx := F.1
  have hb := F.2.1
  have hts := F.2.2.2.2.2.2.1
  have hown : s.vm.findClass RX3 = some m.cls := F.2.2.2.2.2.1
  have hKK := F.2.2.2.2.2.2.2.2.1
  have hK := hKK.1
  have hin0 := F.2.2.2.2.2.2.2.1
  have hl : lv_has ls 5 [(0, .int (zI x)), (1, .int (zI y)), (2, .int (zI z))] := hl
  generalize hH : s.heap = H at hP ⊢
  have hS : va_S A s.heap H [] := by rw [← hH]; exact va_S.rf
  generalize hLo : ([] : List Loc) = locs at hS ⊢
  have J32 : ∀  (H : Heap) (locs : List Loc), va_P G.1 vwCl [] H → va_D A [] → va_S A s.heap H locs → ∀ (ls : Array Slot), lv_has ls 5 [(0, .int (zI x)), (1, .int (zI y)), (2, .int (zI z))] → W p l e ({ frames := 0, cells := 0, slots := 0, locals := 0 } : Room) s m args below meth c H locs 0 0 (MQ below (va_Qi (S := Unit) (fun (r : Int32) (u : Unit) => (r = nI (if ((z = 1 ∨ z = 2 ∨ z = 4 ∨ z = 8 ∨ z = 16) ∧ 0 ≤ x ∧ x < 16 ∧ 0 ≤ y ∧ y < 16 ∧ x % z = 0 ∧ y % z = 0) then 1 else 0))) (gB G A (fun u => [])) A) args s 0 0 A) (F0 m 32 ls [.int (nI (if ((z = 1 ∨ z = 2 ∨ z = 4 ∨ z = 8 ∨ z = 16)) then 1 else 0))]) := by
    intro  H locs hP hD hS ls hl
    refine lv_istore_n (lv' := [(3, .int (nI (if ((z = 1 ∨ z = 2 ∨ z = 4 ∨ z = 8 ∨ z = 16)) then 1 else 0))), (0, .int (zI x)), (1, .int (zI y)), (2, .int (zI z))]) hx hb dX3_isSquare_32 rfl hl (by decide) rfl (fun ls hl => ?_)
    have J58 : ∀  (H : Heap) (locs : List Loc), va_P G.1 vwCl [] H → va_D A [] → va_S A s.heap H locs → ∀ (ls : Array Slot), lv_has ls 5 [(3, .int (nI (if ((z = 1 ∨ z = 2 ∨ z = 4 ∨ z = 8 ∨ z = 16)) then 1 else 0))), (0, .int (zI x)), (1, .int (zI y)), (2, .int (zI z))] → W p l e ({ frames := 0, cells := 0, slots := 0, locals := 0 } : Room) s m args below meth c H locs 0 0 (MQ below (va_Qi (S := Unit) (fun (r : Int32) (u : Unit) => (r = nI (if ((z = 1 ∨ z = 2 ∨ z = 4 ∨ z = 8 ∨ z = 16) ∧ 0 ≤ x ∧ x < 16 ∧ 0 ≤ y ∧ y < 16 ∧ x % z = 0 ∧ y % z = 0) then 1 else 0))) (gB G A (fun u => [])) A) args s 0 0 A) (F0 m 58 ls [.int (nI (if (0 ≤ x ∧ x < 16 ∧ 0 ≤ y ∧ y < 16) then 1 else 0))]) := by
      intro  H locs hP hD hS ls hl
      refine lv_istore (lv' := [(4, .int (nI (if (0 ≤ x ∧ x < 16 ∧ 0 ≤ y ∧ y < 16) then 1 else 0))), (3, .int (nI (if ((z = 1 ∨ z = 2 ∨ z = 4 ∨ z = 8 ∨ z = 16)) then 1 else 0))), (0, .int (zI x)), (1, .int (zI y)), (2, .int (zI z))]) hx hb dX3_isSquare_58 hl (by decide) rfl (fun ls hl => ?_)
      refine lv_iload_n hx hb dX3_isSquare_60 rfl (lv_at hl 1 rfl) ?_
      refine gIfB_eq (P := ((z = 1 ∨ z = 2 ∨ z = 4 ∨ z = 8 ∨ z = 16))) (tgt := 85) hx hb dX3_isSquare_61 (by decide) (fun c61 => ?_) (fun c61 => ?_)
      · skip
        refine lv_iconst (v := nI 0) hx hb dX3_isSquare_85 (by decide) ?_
        exact gRi F dX3_isSquare_86 (gNarZ (by decide)) () (by first | rfl | (rw [if_pos (by omega)]) | (rw [if_neg (by omega)])) hP hD hS (Nat.le_refl _) (Nat.le_refl _)
      refine lv_iload hx hb dX3_isSquare_64 (lv_at hl 0 rfl) ?_
      refine gIfB_eq (P := (0 ≤ x ∧ x < 16 ∧ 0 ≤ y ∧ y < 16)) (tgt := 85) hx hb dX3_isSquare_66 (by decide) (fun c66 => ?_) (fun c66 => ?_)
      · skip
        refine lv_iconst (v := nI 0) hx hb dX3_isSquare_85 (by decide) ?_
        exact gRi F dX3_isSquare_86 (gNarZ (by decide)) () (by first | rfl | (rw [if_pos (by omega)]) | (rw [if_neg (by omega)])) hP hD hS (Nat.le_refl _) (Nat.le_refl _)
      refine lv_iload_n hx hb dX3_isSquare_69 rfl (lv_at hl 2 rfl) ?_
      refine lv_iload_n hx hb dX3_isSquare_70 rfl (lv_at hl 4 rfl) ?_
      refine gZrem (a := x) (b := z) hx hb dX3_isSquare_71 (by omega) (by omega) (by omega) ?_
      refine gZf_ne (a := x % z) (tgt := 85) hx hb dX3_isSquare_72 (by decide) (by have := Int.emod_nonneg x (show z ≠ 0 by omega); have := Int.emod_lt_of_pos x (show 0 < z by omega); omega) (fun c72 => ?_) (fun c72 => ?_)
      · skip
        refine lv_iconst (v := nI 0) hx hb dX3_isSquare_85 (by decide) ?_
        exact gRi F dX3_isSquare_86 (gNarZ (by decide)) () (by first | rfl | (rw [if_pos (by omega)]) | (rw [if_neg (by omega)])) hP hD hS (Nat.le_refl _) (Nat.le_refl _)
      refine lv_iload_n hx hb dX3_isSquare_75 rfl (lv_at hl 3 rfl) ?_
      refine lv_iload_n hx hb dX3_isSquare_76 rfl (lv_at hl 4 rfl) ?_
      refine gZrem (a := y) (b := z) hx hb dX3_isSquare_77 (by omega) (by omega) (by omega) ?_
      refine gZf_ne (a := y % z) (tgt := 85) hx hb dX3_isSquare_78 (by decide) (by have := Int.emod_nonneg y (show z ≠ 0 by omega); have := Int.emod_lt_of_pos y (show 0 < z by omega); omega) (fun c78 => ?_) (fun c78 => ?_)
      · skip
        refine lv_iconst (v := nI 0) hx hb dX3_isSquare_85 (by decide) ?_
        exact gRi F dX3_isSquare_86 (gNarZ (by decide)) () (by first | rfl | (rw [if_pos (by omega)]) | (rw [if_neg (by omega)])) hP hD hS (Nat.le_refl _) (Nat.le_refl _)
      refine lv_iconst (v := nI 1) hx hb dX3_isSquare_81 (by decide) ?_
      refine lv_goto (tgt := 86) hx hb dX3_isSquare_82 (by decide) ?_
      exact gRi F dX3_isSquare_86 (gNarZ (by decide)) () (by first | rfl | (rw [if_pos (by omega)]) | (rw [if_neg (by omega)])) hP hD hS (Nat.le_refl _) (Nat.le_refl _)
    refine lv_iload_n hx hb dX3_isSquare_33 rfl (lv_at hl 1 rfl) ?_
    refine gZf_lt (a := x) (tgt := 57) hx hb dX3_isSquare_34 (by decide) (by omega) (fun c34 => ?_) (fun c34 => ?_)
    · skip
      refine lv_iconst (v := nI 0) hx hb dX3_isSquare_57 (by decide) ?_
      have hl : lv_has ls 5 [(3, .int (nI (if ((z = 1 ∨ z = 2 ∨ z = 4 ∨ z = 8 ∨ z = 16)) then 1 else 0))), (0, .int (zI x)), (1, .int (zI y)), (2, .int (zI z))] := lv_sub hl [0, 1, 2, 3] rfl
      have hse : (.int (nI 0) : Value) = .int (nI (if (0 ≤ x ∧ x < 16 ∧ 0 ≤ y ∧ y < 16) then 1 else 0)) := by first | rfl | (rw [if_pos (by omega)]) | (rw [if_neg (by omega)])
      rw [hse]
      exact J58  H locs hP hD hS ls hl
    refine lv_iload_n hx hb dX3_isSquare_37 rfl (lv_at hl 1 rfl) ?_
    refine lv_bipush (v := nI 16) hx hb dX3_isSquare_38 (by decide) ?_
    refine W.eq (g2 := F0 m 40 ls [.int (zI ((16 : Nat) : Int)), .int (zI x)]) (by simp only [zI_nat]) ?_
    refine gZcmp_ge (a := x) (b := ((16 : Nat) : Int)) (tgt := 57) hx hb dX3_isSquare_40 (by decide) (by omega) (by omega) (fun c40 => ?_) (fun c40 => ?_)
    · skip
      refine lv_iconst (v := nI 0) hx hb dX3_isSquare_57 (by decide) ?_
      have hl : lv_has ls 5 [(3, .int (nI (if ((z = 1 ∨ z = 2 ∨ z = 4 ∨ z = 8 ∨ z = 16)) then 1 else 0))), (0, .int (zI x)), (1, .int (zI y)), (2, .int (zI z))] := lv_sub hl [0, 1, 2, 3] rfl
      have hse : (.int (nI 0) : Value) = .int (nI (if (0 ≤ x ∧ x < 16 ∧ 0 ≤ y ∧ y < 16) then 1 else 0)) := by first | rfl | (rw [if_pos (by omega)]) | (rw [if_neg (by omega)])
      rw [hse]
      exact J58  H locs hP hD hS ls hl
    refine lv_iload_n hx hb dX3_isSquare_43 rfl (lv_at hl 2 rfl) ?_
    refine gZf_lt (a := y) (tgt := 57) hx hb dX3_isSquare_44 (by decide) (by omega) (fun c44 => ?_) (fun c44 => ?_)
    · skip
      refine lv_iconst (v := nI 0) hx hb dX3_isSquare_57 (by decide) ?_
      have hl : lv_has ls 5 [(3, .int (nI (if ((z = 1 ∨ z = 2 ∨ z = 4 ∨ z = 8 ∨ z = 16)) then 1 else 0))), (0, .int (zI x)), (1, .int (zI y)), (2, .int (zI z))] := lv_sub hl [0, 1, 2, 3] rfl
      have hse : (.int (nI 0) : Value) = .int (nI (if (0 ≤ x ∧ x < 16 ∧ 0 ≤ y ∧ y < 16) then 1 else 0)) := by first | rfl | (rw [if_pos (by omega)]) | (rw [if_neg (by omega)])
      rw [hse]
      exact J58  H locs hP hD hS ls hl
    refine lv_iload_n hx hb dX3_isSquare_47 rfl (lv_at hl 2 rfl) ?_
    refine lv_bipush (v := nI 16) hx hb dX3_isSquare_48 (by decide) ?_
    refine W.eq (g2 := F0 m 50 ls [.int (zI ((16 : Nat) : Int)), .int (zI y)]) (by simp only [zI_nat]) ?_
    refine gZcmp_ge (a := y) (b := ((16 : Nat) : Int)) (tgt := 57) hx hb dX3_isSquare_50 (by decide) (by omega) (by omega) (fun c50 => ?_) (fun c50 => ?_)
    · skip
      refine lv_iconst (v := nI 0) hx hb dX3_isSquare_57 (by decide) ?_
      have hl : lv_has ls 5 [(3, .int (nI (if ((z = 1 ∨ z = 2 ∨ z = 4 ∨ z = 8 ∨ z = 16)) then 1 else 0))), (0, .int (zI x)), (1, .int (zI y)), (2, .int (zI z))] := lv_sub hl [0, 1, 2, 3] rfl
      have hse : (.int (nI 0) : Value) = .int (nI (if (0 ≤ x ∧ x < 16 ∧ 0 ≤ y ∧ y < 16) then 1 else 0)) := by first | rfl | (rw [if_pos (by omega)]) | (rw [if_neg (by omega)])
      rw [hse]
      exact J58  H locs hP hD hS ls hl
    refine lv_iconst (v := nI 1) hx hb dX3_isSquare_53 (by decide) ?_
    refine lv_goto (tgt := 58) hx hb dX3_isSquare_54 (by decide) ?_
    have hl : lv_has ls 5 [(3, .int (nI (if ((z = 1 ∨ z = 2 ∨ z = 4 ∨ z = 8 ∨ z = 16)) then 1 else 0))), (0, .int (zI x)), (1, .int (zI y)), (2, .int (zI z))] := lv_sub hl [0, 1, 2, 3] rfl
    have hse : (.int (nI 1) : Value) = .int (nI (if (0 ≤ x ∧ x < 16 ∧ 0 ≤ y ∧ y < 16) then 1 else 0)) := by first | rfl | (rw [if_pos (by omega)]) | (rw [if_neg (by omega)])
    rw [hse]
    exact J58  H locs hP hD hS ls hl
  refine lv_iload_n hx hb dX3_isSquare_0 rfl (lv_at hl 2 rfl) ?_
  refine lv_iconst (v := nI 1) hx hb dX3_isSquare_1 (by decide) ?_
  refine W.eq (g2 := F0 m 2 ls [.int (zI ((1 : Nat) : Int)), .int (zI z)]) (by simp only [zI_nat]) ?_
  refine gZcmp_eq (a := z) (b := ((1 : Nat) : Int)) (tgt := 27) hx hb dX3_isSquare_2 (by decide) (by omega) (by omega) (fun c2 => ?_) (fun c2 => ?_)
  · skip
    refine lv_iconst (v := nI 1) hx hb dX3_isSquare_27 (by decide) ?_
    refine lv_goto (tgt := 32) hx hb dX3_isSquare_28 (by decide) ?_
    have hl : lv_has ls 5 [(0, .int (zI x)), (1, .int (zI y)), (2, .int (zI z))] := lv_sub hl [0, 1, 2] rfl
    have hse : (.int (nI 1) : Value) = .int (nI (if ((z = 1 ∨ z = 2 ∨ z = 4 ∨ z = 8 ∨ z = 16)) then 1 else 0)) := by first | rfl | (rw [if_pos (by omega)]) | (rw [if_neg (by omega)])
    rw [hse]
    exact J32  H locs hP hD hS ls hl
  refine lv_iload_n hx hb dX3_isSquare_5 rfl (lv_at hl 2 rfl) ?_
  refine lv_iconst (v := nI 2) hx hb dX3_isSquare_6 (by decide) ?_
  refine W.eq (g2 := F0 m 7 ls [.int (zI ((2 : Nat) : Int)), .int (zI z)]) (by simp only [zI_nat]) ?_
  refine gZcmp_eq (a := z) (b := ((2 : Nat) : Int)) (tgt := 27) hx hb dX3_isSquare_7 (by decide) (by omega) (by omega) (fun c7 => ?_) (fun c7 => ?_)
  · skip
    refine lv_iconst (v := nI 1) hx hb dX3_isSquare_27 (by decide) ?_
    refine lv_goto (tgt := 32) hx hb dX3_isSquare_28 (by decide) ?_
    have hl : lv_has ls 5 [(0, .int (zI x)), (1, .int (zI y)), (2, .int (zI z))] := lv_sub hl [0, 1, 2] rfl
    have hse : (.int (nI 1) : Value) = .int (nI (if ((z = 1 ∨ z = 2 ∨ z = 4 ∨ z = 8 ∨ z = 16)) then 1 else 0)) := by first | rfl | (rw [if_pos (by omega)]) | (rw [if_neg (by omega)])
    rw [hse]
    exact J32  H locs hP hD hS ls hl
  refine lv_iload_n hx hb dX3_isSquare_10 rfl (lv_at hl 2 rfl) ?_
  refine lv_iconst (v := nI 4) hx hb dX3_isSquare_11 (by decide) ?_
  refine W.eq (g2 := F0 m 12 ls [.int (zI ((4 : Nat) : Int)), .int (zI z)]) (by simp only [zI_nat]) ?_
  refine gZcmp_eq (a := z) (b := ((4 : Nat) : Int)) (tgt := 27) hx hb dX3_isSquare_12 (by decide) (by omega) (by omega) (fun c12 => ?_) (fun c12 => ?_)
  · skip
    refine lv_iconst (v := nI 1) hx hb dX3_isSquare_27 (by decide) ?_
    refine lv_goto (tgt := 32) hx hb dX3_isSquare_28 (by decide) ?_
    have hl : lv_has ls 5 [(0, .int (zI x)), (1, .int (zI y)), (2, .int (zI z))] := lv_sub hl [0, 1, 2] rfl
    have hse : (.int (nI 1) : Value) = .int (nI (if ((z = 1 ∨ z = 2 ∨ z = 4 ∨ z = 8 ∨ z = 16)) then 1 else 0)) := by first | rfl | (rw [if_pos (by omega)]) | (rw [if_neg (by omega)])
    rw [hse]
    exact J32  H locs hP hD hS ls hl
  refine lv_iload_n hx hb dX3_isSquare_15 rfl (lv_at hl 2 rfl) ?_
  refine lv_bipush (v := nI 8) hx hb dX3_isSquare_16 (by decide) ?_
  refine W.eq (g2 := F0 m 18 ls [.int (zI ((8 : Nat) : Int)), .int (zI z)]) (by simp only [zI_nat]) ?_
  refine gZcmp_eq (a := z) (b := ((8 : Nat) : Int)) (tgt := 27) hx hb dX3_isSquare_18 (by decide) (by omega) (by omega) (fun c18 => ?_) (fun c18 => ?_)
  · skip
    refine lv_iconst (v := nI 1) hx hb dX3_isSquare_27 (by decide) ?_
    refine lv_goto (tgt := 32) hx hb dX3_isSquare_28 (by decide) ?_
    have hl : lv_has ls 5 [(0, .int (zI x)), (1, .int (zI y)), (2, .int (zI z))] := lv_sub hl [0, 1, 2] rfl
    have hse : (.int (nI 1) : Value) = .int (nI (if ((z = 1 ∨ z = 2 ∨ z = 4 ∨ z = 8 ∨ z = 16)) then 1 else 0)) := by first | rfl | (rw [if_pos (by omega)]) | (rw [if_neg (by omega)])
    rw [hse]
    exact J32  H locs hP hD hS ls hl
  refine lv_iload_n hx hb dX3_isSquare_21 rfl (lv_at hl 2 rfl) ?_
  refine lv_bipush (v := nI 16) hx hb dX3_isSquare_22 (by decide) ?_
  refine W.eq (g2 := F0 m 24 ls [.int (zI ((16 : Nat) : Int)), .int (zI z)]) (by simp only [zI_nat]) ?_
  refine gZcmp_ne (a := z) (b := ((16 : Nat) : Int)) (tgt := 31) hx hb dX3_isSquare_24 (by decide) (by omega) (by omega) (fun c24 => ?_) (fun c24 => ?_)
  · skip
    refine lv_iconst (v := nI 0) hx hb dX3_isSquare_31 (by decide) ?_
    have hl : lv_has ls 5 [(0, .int (zI x)), (1, .int (zI y)), (2, .int (zI z))] := lv_sub hl [0, 1, 2] rfl
    have hse : (.int (nI 0) : Value) = .int (nI (if ((z = 1 ∨ z = 2 ∨ z = 4 ∨ z = 8 ∨ z = 16)) then 1 else 0)) := by first | rfl | (rw [if_pos (by omega)]) | (rw [if_neg (by omega)])
    rw [hse]
    exact J32  H locs hP hD hS ls hl
  refine lv_iconst (v := nI 1) hx hb dX3_isSquare_27 (by decide) ?_
  refine lv_goto (tgt := 32) hx hb dX3_isSquare_28 (by decide) ?_
  have hl : lv_has ls 5 [(0, .int (zI x)), (1, .int (zI y)), (2, .int (zI z))] := lv_sub hl [0, 1, 2] rfl
  have hse : (.int (nI 1) : Value) = .int (nI (if ((z = 1 ∨ z = 2 ∨ z = 4 ∨ z = 8 ∨ z = 16)) then 1 else 0)) := by first | rfl | (rw [if_pos (by omega)]) | (rw [if_neg (by omega)])
  rw [hse]
  exact J32  H locs hP hD hS ls hl

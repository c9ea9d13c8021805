set_option maxHeartbeats 4000000 in
set_option maxRecDepth 100000 in
theorem c_X3_needCell (l : Launch) (G : gG) (x : Int) (y : Int) (hx : -2147483648 ≤ x ∧ x < 2147483648) (hy : -2147483648 ≤ y ∧ y < 2147483648) (hcond : 0 ≤ x ∧ x < 16 ∧ 0 ≤ y ∧ y < 16) : gMv (S := Unit) l yX3_needCell wsX3_needCell { frames := 1, cells := 0, slots := 0, locals := 21 } G [.int (zI x), .int (zI y)] [] (fun (u : Unit) => True) (fun u => []) 0 0 := by
  refine gMet_mk (cc := cX3_needCell) (nL := 2) (ret := none) (Qc := fun A => va_Qv (S := Unit) (fun (u : Unit) => True) (gB G A (fun u => [])) A) (by decide) rfl (Nat.le_of_ble_eq_true rfl) ?_
  intro p e s m args below meth c A F ls hl hP hD hS
  have hx := F.1
  have hb := F.2.1
  have hts := F.2.2.2.2.2.2.1
  have hown : s.vm.findClass RX3 = some m.cls := F.2.2.2.2.2.1
  have hKK := F.2.2.2.2.2.2.2.2.1
  have hK := hKK.1
  have hin0 := F.2.2.2.2.2.2.2.1
  have hl : lv_has ls 2 [(0, .int (zI x)), (1, .int (zI y))] := hl
  generalize hH : s.heap = H at hP ⊢
  have hS : va_S A s.heap H [] := by rw [← hH]; exact va_S.rf
  generalize hLo : ([] : List Loc) = locs at hS ⊢
  refine lv_iload_n hx hb dX3_needCell_0 rfl (lv_at hl 0 rfl) ?_
  refine lv_iload_n hx hb dX3_needCell_1 rfl (lv_at hl 1 rfl) ?_
  refine gCi F (gRunS (own := RX3) (bytes := cX3_isCell) (n := 2) (As := [.int (zI x), .int (zI y)]) (rest := []) F (c_X3_isCell l G x y (by first | assumption | omega) (by first | assumption | omega) H.size) gX3_needCell_X3_isCell rfl rfl rfl rfl (by decide +kernel) rfl ⟨Nat.le_of_ble_eq_true rfl, Nat.le_of_ble_eq_true rfl⟩ hP hD (lit := []) (wt := []) (wc := []) (isC := []) rfl (by decide) rfl hl.1 (Nat.le_of_ble_eq_true rfl) dX3_needCell_2 ⟨Nat.le_of_ble_eq_true rfl, Nat.le_of_ble_eq_true rfl⟩) hP hD hS (lit := []) (wt := []) (wc := []) (wr := []) (isC := []) (isR := []) rfl rfl (by decide) (by decide) (fun r2 u H locs hp2 hP hD hS => ?_)
  subst hp2
  have hP : va_P G.1 vwCl [] H := hP
  have hD : va_D A [] := hD
  refine gIfB_ne (P := (0 ≤ x ∧ x < 16 ∧ 0 ≤ y ∧ y < 16)) (tgt := 18) hx hb dX3_needCell_5 (by decide) (fun c5 => ?_) (fun c5 => ?_)
  · skip
    exact gRv F dX3_needCell_18 () (trivial) hP hD hS (Nat.le_refl _) (Nat.le_refl _)
  exfalso; omega

set_option maxHeartbeats 4000000 in
set_option maxRecDepth 100000 in
theorem x_X3_needCell (l : Launch) (G : gG) (x : Int) (y : Int) (hx : -2147483648 ≤ x ∧ x < 2147483648) (hy : -2147483648 ≤ y ∧ y < 2147483648) (hcond : ¬(0 ≤ x ∧ x < 16 ∧ 0 ≤ y ∧ y < 16)) (hl9 : l.stackTraces = false) : gMx (S := Unit) l yX3_needCell wsX3_needCell { frames := 6, cells := 1, slots := 6, locals := 90 } G [.int (zI x), .int (zI y)] [] gIO (fun u => True) (fun u => []) 1 6 := by
  refine gMetX_mk (cc := cX3_needCell) (nL := 2) (ret := none) (XC := fun A => gXC (S := Unit) G A gIO (fun u => True) (fun u => [])) (by decide) rfl (Nat.le_of_ble_eq_true rfl) ?_
  intro p e s m args below meth c A F htb hZ ls hl hP hD hS
  have hx := F.1
  have hb := F.2.1
  have hts := F.2.2.2.2.2.2.1
  have hown : s.vm.findClass RX3 = some m.cls := F.2.2.2.2.2.1
  have hKK := F.2.2.2.2.2.2.2.2.1
  have hK := hKK.1
  have hin0 := F.2.2.2.2.2.2.2.1
  have hl : lv_has ls 2 [(0, .int (zI x)), (1, .int (zI y))] := hl
  generalize hH : s.heap = H at hP ⊢
  have hS : va_S A s.heap H [] := by rw [← hH]; exact va_S.rf
  generalize hLo : ([] : List Loc) = locs at hS ⊢
  refine lv_iload_n hx hb dX3_needCell_0 rfl (lv_at hl 0 rfl) ?_
  refine lv_iload_n hx hb dX3_needCell_1 rfl (lv_at hl 1 rfl) ?_
  refine gCi F (gRunS (own := RX3) (bytes := cX3_isCell) (n := 2) (As := [.int (zI x), .int (zI y)]) (rest := []) F (c_X3_isCell l G x y (by first | assumption | omega) (by first | assumption | omega) H.size) gX3_needCell_X3_isCell rfl rfl rfl rfl (by decide +kernel) rfl ⟨Nat.le_of_ble_eq_true rfl, Nat.le_of_ble_eq_true rfl⟩ hP hD (lit := []) (wt := []) (wc := []) (isC := []) rfl (by decide) rfl hl.1 (Nat.le_of_ble_eq_true rfl) dX3_needCell_2 ⟨Nat.le_of_ble_eq_true rfl, Nat.le_of_ble_eq_true rfl⟩) hP hD hS (lit := []) (wt := []) (wc := []) (wr := []) (isC := []) (isR := []) rfl rfl (by decide) (by decide) (fun r2 u H locs hp2 hP hD hS => ?_)
  subst hp2
  have hP : va_P G.1 vwCl [] H := hP
  have hD : va_D A [] := hD
  refine gIfB_ne (P := (0 ≤ x ∧ x < 16 ∧ 0 ≤ y ∧ y < 16)) (tgt := 18) hx hb dX3_needCell_5 (by decide) (fun c5 => ?_) (fun c5 => ?_)
  · skip
    exfalso; omega
  exact gThrow (own := RX3) (cls := gIO) (text := "there is no such cell") (names := ["java/lang/RuntimeException", "java/lang/Exception"]) (ik := 230) (is := 232) (ic := 234) F htb hZ hl9 rfl (by decide) (by decide) (by decide +kernel) (by decide +kernel) (by decide +kernel) (by decide +kernel) (by decide) (by decide +kernel) (by decide +kernel) dX3_needCell_8 dX3_needCell_11 dX3_needCell_12 dX3_needCell_14 dX3_needCell_17 hl.1 (Nat.le_of_ble_eq_true rfl) (Nat.le_of_ble_eq_true rfl) (Nat.le_of_ble_eq_true rfl) (Nat.le_of_ble_eq_true rfl) () (trivial) hP hD hS (Nat.le_of_ble_eq_true rfl) (Nat.le_of_ble_eq_true rfl)

set_option maxHeartbeats 4000000 in
set_option maxRecDepth 100000 in
theorem c_X3_needOwner (l : Launch) (G : gG) (o : Int) (ho : -2147483648 ≤ o ∧ o < 2147483648) (hcond : 0 ≤ o ∧ o < 8) : gMv (S := Unit) l yX3_needOwner wsX3_needOwner { frames := 1, cells := 0, slots := 0, locals := 20 } G [.int (zI o)] [] (fun (u : Unit) => True) (fun u => []) 0 0 := by
  refine gMet_mk (cc := cX3_needOwner) (nL := 1) (ret := none) (Qc := fun A => va_Qv (S := Unit) (fun (u : Unit) => True) (gB G A (fun u => [])) A) (by decide) rfl (Nat.le_of_ble_eq_true rfl) ?_
  intro p e s m args below meth c A F ls hl hP hD hS
  have hx := F.1
  have hb := F.2.1
  have hts := F.2.2.2.2.2.2.1
  have hown : s.vm.findClass RX3 = some m.cls := F.2.2.2.2.2.1
  have hKK := F.2.2.2.2.2.2.2.2.1
  have hK := hKK.1
  have hin0 := F.2.2.2.2.2.2.2.1
  have hl : lv_has ls 1 [(0, .int (zI o))] := hl
  generalize hH : s.heap = H at hP ⊢
  have hS : va_S A s.heap H [] := by rw [← hH]; exact va_S.rf
  generalize hLo : ([] : List Loc) = locs at hS ⊢
  refine lv_iload_n hx hb dX3_needOwner_0 rfl (lv_at hl 0 rfl) ?_
  refine gCi F (gRunS (own := RX3) (bytes := cX3_isOwner) (n := 1) (As := [.int (zI o)]) (rest := []) F (c_X3_isOwner l G o (by first | assumption | omega) H.size) gX3_needOwner_X3_isOwner rfl rfl rfl rfl (by decide +kernel) rfl ⟨Nat.le_of_ble_eq_true rfl, Nat.le_of_ble_eq_true rfl⟩ hP hD (lit := []) (wt := []) (wc := []) (isC := []) rfl (by decide) rfl hl.1 (Nat.le_of_ble_eq_true rfl) dX3_needOwner_1 ⟨Nat.le_of_ble_eq_true rfl, Nat.le_of_ble_eq_true rfl⟩) hP hD hS (lit := []) (wt := []) (wc := []) (wr := []) (isC := []) (isR := []) rfl rfl (by decide) (by decide) (fun r1 u H locs hp1 hP hD hS => ?_)
  subst hp1
  have hP : va_P G.1 vwCl [] H := hP
  have hD : va_D A [] := hD
  refine gIfB_ne (P := (0 ≤ o ∧ o < 8)) (tgt := 17) hx hb dX3_needOwner_4 (by decide) (fun c4 => ?_) (fun c4 => ?_)
  · skip
    exact gRv F dX3_needOwner_17 () (trivial) hP hD hS (Nat.le_refl _) (Nat.le_refl _)
  exfalso; omega

set_option maxHeartbeats 4000000 in
set_option maxRecDepth 100000 in
theorem x_X3_needOwner (l : Launch) (G : gG) (o : Int) (ho : -2147483648 ≤ o ∧ o < 2147483648) (hcond : ¬(0 ≤ o ∧ o < 8)) (hl9 : l.stackTraces = false) : gMx (S := Unit) l yX3_needOwner wsX3_needOwner { frames := 6, cells := 1, slots := 6, locals := 90 } G [.int (zI o)] [] gIO (fun u => True) (fun u => []) 1 6 := by
  refine gMetX_mk (cc := cX3_needOwner) (nL := 1) (ret := none) (XC := fun A => gXC (S := Unit) G A gIO (fun u => True) (fun u => [])) (by decide) rfl (Nat.le_of_ble_eq_true rfl) ?_
  intro p e s m args below meth c A F htb hZ ls hl hP hD hS
  have hx := F.1
  have hb := F.2.1
  have hts := F.2.2.2.2.2.2.1
  have hown : s.vm.findClass RX3 = some m.cls := F.2.2.2.2.2.1
  have hKK := F.2.2.2.2.2.2.2.2.1
  have hK := hKK.1
  have hin0 := F.2.2.2.2.2.2.2.1
  have hl : lv_has ls 1 [(0, .int (zI o))] := hl
  generalize hH : s.heap = H at hP ⊢
  have hS : va_S A s.heap H [] := by rw [← hH]; exact va_S.rf
  generalize hLo : ([] : List Loc) = locs at hS ⊢
  refine lv_iload_n hx hb dX3_needOwner_0 rfl (lv_at hl 0 rfl) ?_
  refine gCi F (gRunS (own := RX3) (bytes := cX3_isOwner) (n := 1) (As := [.int (zI o)]) (rest := []) F (c_X3_isOwner l G o (by first | assumption | omega) H.size) gX3_needOwner_X3_isOwner rfl rfl rfl rfl (by decide +kernel) rfl ⟨Nat.le_of_ble_eq_true rfl, Nat.le_of_ble_eq_true rfl⟩ hP hD (lit := []) (wt := []) (wc := []) (isC := []) rfl (by decide) rfl hl.1 (Nat.le_of_ble_eq_true rfl) dX3_needOwner_1 ⟨Nat.le_of_ble_eq_true rfl, Nat.le_of_ble_eq_true rfl⟩) hP hD hS (lit := []) (wt := []) (wc := []) (wr := []) (isC := []) (isR := []) rfl rfl (by decide) (by decide) (fun r1 u H locs hp1 hP hD hS => ?_)
  subst hp1
  have hP : va_P G.1 vwCl [] H := hP
  have hD : va_D A [] := hD
  refine gIfB_ne (P := (0 ≤ o ∧ o < 8)) (tgt := 17) hx hb dX3_needOwner_4 (by decide) (fun c4 => ?_) (fun c4 => ?_)
  · skip
    exfalso; omega
  exact gThrow (own := RX3) (cls := gIO) (text := "there is no such owner") (names := ["java/lang/RuntimeException", "java/lang/Exception"]) (ik := 230) (is := 239) (ic := 234) F htb hZ hl9 rfl (by decide) (by decide) (by decide +kernel) (by decide +kernel) (by decide +kernel) (by decide +kernel) (by decide) (by decide +kernel) (by decide +kernel) dX3_needOwner_7 dX3_needOwner_10 dX3_needOwner_11 dX3_needOwner_13 dX3_needOwner_16 hl.1 (Nat.le_of_ble_eq_true rfl) (Nat.le_of_ble_eq_true rfl) (Nat.le_of_ble_eq_true rfl) (Nat.le_of_ble_eq_true rfl) () (trivial) hP hD hS (Nat.le_of_ble_eq_true rfl) (Nat.le_of_ble_eq_true rfl)

set_option maxHeartbeats 4000000 in
set_option maxRecDepth 100000 in
theorem c_X3_needPerson (l : Launch) (G : gG) (o : Int) (ho : -2147483648 ≤ o ∧ o < 2147483648) (hcond : 1 ≤ o ∧ o < 8) : gMv (S := Unit) l yX3_needPerson wsX3_needPerson { frames := 0, cells := 0, slots := 0, locals := 0 } G [.int (zI o)] [] (fun (u : Unit) => True) (fun u => []) 0 0 := by
  refine gMet_mk (cc := cX3_needPerson) (nL := 1) (ret := none) (Qc := fun A => va_Qv (S := Unit) (fun (u : Unit) => True) (gB G A (fun u => [])) A) (by decide) rfl (Nat.le_of_ble_eq_true rfl) ?_
  intro p e s m args below meth c A F ls hl hP hD hS
  have hx := F.1
  have hb := F.2.1
  have hts := F.2.2.2.2.2.2.1
  have hown : s.vm.findClass RX3 = some m.cls := F.2.2.2.2.2.1
  have hKK := F.2.2.2.2.2.2.2.2.1
  have hK := hKK.1
  have hin0 := F.2.2.2.2.2.2.2.1
  have hl : lv_has ls 1 [(0, .int (zI o))] := hl
  generalize hH : s.heap = H at hP ⊢
  have hS : va_S A s.heap H [] := by rw [← hH]; exact va_S.rf
  generalize hLo : ([] : List Loc) = locs at hS ⊢
  refine lv_iload_n hx hb dX3_needPerson_0 rfl (lv_at hl 0 rfl) ?_
  refine gZf_le (a := o) (tgt := 10) hx hb dX3_needPerson_1 (by decide) (by omega) (fun c1 => ?_) (fun c1 => ?_)
  · skip
    exfalso; omega
  refine lv_iload_n hx hb dX3_needPerson_4 rfl (lv_at hl 0 rfl) ?_
  refine lv_bipush (v := nI 8) hx hb dX3_needPerson_5 (by decide) ?_
  refine W.eq (g2 := F0 m 7 ls [.int (zI ((8 : Nat) : Int)), .int (zI o)]) (by simp only [zI_nat]) ?_
  refine gZcmp_lt (a := o) (b := ((8 : Nat) : Int)) (tgt := 20) hx hb dX3_needPerson_7 (by decide) (by omega) (by omega) (fun c7 => ?_) (fun c7 => ?_)
  · skip
    exact gRv F dX3_needPerson_20 () (trivial) hP hD hS (Nat.le_refl _) (Nat.le_refl _)
  exfalso; omega

set_option maxHeartbeats 4000000 in
set_option maxRecDepth 100000 in
theorem x_X3_needPerson (l : Launch) (G : gG) (o : Int) (ho : -2147483648 ≤ o ∧ o < 2147483648) (hcond : ¬(1 ≤ o ∧ o < 8)) (hl9 : l.stackTraces = false) : gMx (S := Unit) l yX3_needPerson wsX3_needPerson { frames := 6, cells := 1, slots := 6, locals := 90 } G [.int (zI o)] [] gIO (fun u => True) (fun u => []) 1 6 := by
  refine gMetX_mk (cc := cX3_needPerson) (nL := 1) (ret := none) (XC := fun A => gXC (S := Unit) G A gIO (fun u => True) (fun u => [])) (by decide) rfl (Nat.le_of_ble_eq_true rfl) ?_
  intro p e s m args below meth c A F htb hZ ls hl hP hD hS
  have hx := F.1
  have hb := F.2.1
  have hts := F.2.2.2.2.2.2.1
  have hown : s.vm.findClass RX3 = some m.cls := F.2.2.2.2.2.1
  have hKK := F.2.2.2.2.2.2.2.2.1
  have hK := hKK.1
  have hin0 := F.2.2.2.2.2.2.2.1
  have hl : lv_has ls 1 [(0, .int (zI o))] := hl
  generalize hH : s.heap = H at hP ⊢
  have hS : va_S A s.heap H [] := by rw [← hH]; exact va_S.rf
  generalize hLo : ([] : List Loc) = locs at hS ⊢
  refine lv_iload_n hx hb dX3_needPerson_0 rfl (lv_at hl 0 rfl) ?_
  refine gZf_le (a := o) (tgt := 10) hx hb dX3_needPerson_1 (by decide) (by omega) (fun c1 => ?_) (fun c1 => ?_)
  · skip
    exact gThrow (own := RX3) (cls := gIO) (text := "there is no such person") (names := ["java/lang/RuntimeException", "java/lang/Exception"]) (ik := 230) (is := 241) (ic := 234) F htb hZ hl9 rfl (by decide) (by decide) (by decide +kernel) (by decide +kernel) (by decide +kernel) (by decide +kernel) (by decide) (by decide +kernel) (by decide +kernel) dX3_needPerson_10 dX3_needPerson_13 dX3_needPerson_14 dX3_needPerson_16 dX3_needPerson_19 hl.1 (Nat.le_of_ble_eq_true rfl) (Nat.le_of_ble_eq_true rfl) (Nat.le_of_ble_eq_true rfl) (Nat.le_of_ble_eq_true rfl) () (trivial) hP hD hS (Nat.le_of_ble_eq_true rfl) (Nat.le_of_ble_eq_true rfl)
  refine lv_iload_n hx hb dX3_needPerson_4 rfl (lv_at hl 0 rfl) ?_
  refine lv_bipush (v := nI 8) hx hb dX3_needPerson_5 (by decide) ?_
  refine W.eq (g2 := F0 m 7 ls [.int (zI ((8 : Nat) : Int)), .int (zI o)]) (by simp only [zI_nat]) ?_
  refine gZcmp_lt (a := o) (b := ((8 : Nat) : Int)) (tgt := 20) hx hb dX3_needPerson_7 (by decide) (by omega) (by omega) (fun c7 => ?_) (fun c7 => ?_)
  · skip
    exfalso; omega
  exact gThrow (own := RX3) (cls := gIO) (text := "there is no such person") (names := ["java/lang/RuntimeException", "java/lang/Exception"]) (ik := 230) (is := 241) (ic := 234) F htb hZ hl9 rfl (by decide) (by decide) (by decide +kernel) (by decide +kernel) (by decide +kernel) (by decide +kernel) (by decide) (by decide +kernel) (by decide +kernel) dX3_needPerson_10 dX3_needPerson_13 dX3_needPerson_14 dX3_needPerson_16 dX3_needPerson_19 hl.1 (Nat.le_of_ble_eq_true rfl) (Nat.le_of_ble_eq_true rfl) (Nat.le_of_ble_eq_true rfl) (Nat.le_of_ble_eq_true rfl) () (trivial) hP hD hS (Nat.le_of_ble_eq_true rfl) (Nat.le_of_ble_eq_true rfl)

set_option maxHeartbeats 4000000 in
set_option maxRecDepth 100000 in
theorem c_X3_needSlot (l : Launch) (G : gG) (o : Int) (ho : -2147483648 ≤ o ∧ o < 2147483648) (hcond : 0 ≤ o ∧ o < 2) : gMv (S := Unit) l yX3_needSlot wsX3_needSlot { frames := 0, cells := 0, slots := 0, locals := 0 } G [.int (zI o)] [] (fun (u : Unit) => True) (fun u => []) 0 0 := by
  refine gMet_mk (cc := cX3_needSlot) (nL := 1) (ret := none) (Qc := fun A => va_Qv (S := Unit) (fun (u : Unit) => True) (gB G A (fun u => [])) A) (by decide) rfl (Nat.le_of_ble_eq_true rfl) ?_
  intro p e s m args below meth c A F ls hl hP hD hS
  have hx := F.1
  have hb := F.2.1
  have hts := F.2.2.2.2.2.2.1
  have hown : s.vm.findClass RX3 = some m.cls := F.2.2.2.2.2.1
  have hKK := F.2.2.2.2.2.2.2.2.1
  have hK := hKK.1
  have hin0 := F.2.2.2.2.2.2.2.1
  have hl : lv_has ls 1 [(0, .int (zI o))] := hl
  generalize hH : s.heap = H at hP ⊢
  have hS : va_S A s.heap H [] := by rw [← hH]; exact va_S.rf
  generalize hLo : ([] : List Loc) = locs at hS ⊢
  refine lv_iload_n hx hb dX3_needSlot_0 rfl (lv_at hl 0 rfl) ?_
  refine gZf_lt (a := o) (tgt := 9) hx hb dX3_needSlot_1 (by decide) (by omega) (fun c1 => ?_) (fun c1 => ?_)
  · skip
    exfalso; omega
  refine lv_iload_n hx hb dX3_needSlot_4 rfl (lv_at hl 0 rfl) ?_
  refine lv_iconst (v := nI 2) hx hb dX3_needSlot_5 (by decide) ?_
  refine W.eq (g2 := F0 m 6 ls [.int (zI ((2 : Nat) : Int)), .int (zI o)]) (by simp only [zI_nat]) ?_
  refine gZcmp_lt (a := o) (b := ((2 : Nat) : Int)) (tgt := 19) hx hb dX3_needSlot_6 (by decide) (by omega) (by omega) (fun c6 => ?_) (fun c6 => ?_)
  · skip
    exact gRv F dX3_needSlot_19 () (trivial) hP hD hS (Nat.le_refl _) (Nat.le_refl _)
  exfalso; omega

set_option maxHeartbeats 4000000 in
set_option maxRecDepth 100000 in
theorem x_X3_needSlot (l : Launch) (G : gG) (o : Int) (ho : -2147483648 ≤ o ∧ o < 2147483648) (hcond : ¬(0 ≤ o ∧ o < 2)) (hl9 : l.stackTraces = false) : gMx (S := Unit) l yX3_needSlot wsX3_needSlot { frames := 6, cells := 1, slots := 6, locals := 90 } G [.int (zI o)] [] gIO (fun u => True) (fun u => []) 1 6 := by
  refine gMetX_mk (cc := cX3_needSlot) (nL := 1) (ret := none) (XC := fun A => gXC (S := Unit) G A gIO (fun u => True) (fun u => [])) (by decide) rfl (Nat.le_of_ble_eq_true rfl) ?_
  intro p e s m args below meth c A F htb hZ ls hl hP hD hS
  have hx := F.1
  have hb := F.2.1
  have hts := F.2.2.2.2.2.2.1
  have hown : s.vm.findClass RX3 = some m.cls := F.2.2.2.2.2.1
  have hKK := F.2.2.2.2.2.2.2.2.1
  have hK := hKK.1
  have hin0 := F.2.2.2.2.2.2.2.1
  have hl : lv_has ls 1 [(0, .int (zI o))] := hl
  generalize hH : s.heap = H at hP ⊢
  have hS : va_S A s.heap H [] := by rw [← hH]; exact va_S.rf
  generalize hLo : ([] : List Loc) = locs at hS ⊢
  refine lv_iload_n hx hb dX3_needSlot_0 rfl (lv_at hl 0 rfl) ?_
  refine gZf_lt (a := o) (tgt := 9) hx hb dX3_needSlot_1 (by decide) (by omega) (fun c1 => ?_) (fun c1 => ?_)
  · skip
    exact gThrow (own := RX3) (cls := gIO) (text := "there is no such slot") (names := ["java/lang/RuntimeException", "java/lang/Exception"]) (ik := 230) (is := 243) (ic := 234) F htb hZ hl9 rfl (by decide) (by decide) (by decide +kernel) (by decide +kernel) (by decide +kernel) (by decide +kernel) (by decide) (by decide +kernel) (by decide +kernel) dX3_needSlot_9 dX3_needSlot_12 dX3_needSlot_13 dX3_needSlot_15 dX3_needSlot_18 hl.1 (Nat.le_of_ble_eq_true rfl) (Nat.le_of_ble_eq_true rfl) (Nat.le_of_ble_eq_true rfl) (Nat.le_of_ble_eq_true rfl) () (trivial) hP hD hS (Nat.le_of_ble_eq_true rfl) (Nat.le_of_ble_eq_true rfl)
  refine lv_iload_n hx hb dX3_needSlot_4 rfl (lv_at hl 0 rfl) ?_
  refine lv_iconst (v := nI 2) hx hb dX3_needSlot_5 (by decide) ?_
  refine W.eq (g2 := F0 m 6 ls [.int (zI ((2 : Nat) : Int)), .int (zI o)]) (by simp only [zI_nat]) ?_
  refine gZcmp_lt (a := o) (b := ((2 : Nat) : Int)) (tgt := 19) hx hb dX3_needSlot_6 (by decide) (by omega) (by omega) (fun c6 => ?_) (fun c6 => ?_)
  · skip
    exfalso; omega
  exact gThrow (own := RX3) (cls := gIO) (text := "there is no such slot") (names := ["java/lang/RuntimeException", "java/lang/Exception"]) (ik := 230) (is := 243) (ic := 234) F htb hZ hl9 rfl (by decide) (by decide) (by decide +kernel) (by decide +kernel) (by decide +kernel) (by decide +kernel) (by decide) (by decide +kernel) (by decide +kernel) dX3_needSlot_9 dX3_needSlot_12 dX3_needSlot_13 dX3_needSlot_15 dX3_needSlot_18 hl.1 (Nat.le_of_ble_eq_true rfl) (Nat.le_of_ble_eq_true rfl) (Nat.le_of_ble_eq_true rfl) (Nat.le_of_ble_eq_true rfl) () (trivial) hP hD hS (Nat.le_of_ble_eq_true rfl) (Nat.le_of_ble_eq_true rfl)

set_option maxHeartbeats 4000000 in
set_option maxRecDepth 100000 in
theorem c_X3_needSquare (l : Launch) (G : gG) (x : Int) (y : Int) (z : Int) (hx : -2147483648 ≤ x ∧ x < 2147483648) (hy : -2147483648 ≤ y ∧ y < 2147483648) (hz : -2147483648 ≤ z ∧ z < 2147483648) (hcond : (z = 1 ∨ z = 2 ∨ z = 4 ∨ z = 8 ∨ z = 16) ∧ 0 ≤ x ∧ x < 16 ∧ 0 ≤ y ∧ y < 16 ∧ x % z = 0 ∧ y % z = 0) : gMv (S := Unit) l yX3_needSquare wsX3_needSquare { frames := 1, cells := 0, slots := 0, locals := 24 } G [.int (zI x), .int (zI y), .int (zI z)] [] (fun (u : Unit) => True) (fun u => []) 0 0 := by
  refine gMet_mk (cc := cX3_needSquare) (nL := 3) (ret := none) (Qc := fun A => va_Qv (S := Unit) (fun (u : Unit) => True) (gB G A (fun u => [])) A) (by decide) rfl (Nat.le_of_ble_eq_true rfl) ?_
  intro p e s m args below meth c A F ls hl hP hD hS
  have hx := F.1
  have hb := F.2.1
  have hts := F.2.2.2.2.2.2.1
  have hown : s.vm.findClass RX3 = some m.cls := F.2.2.2.2.2.1
  have hKK := F.2.2.2.2.2.2.2.2.1
  have hK := hKK.1
  have hin0 := F.2.2.2.2.2.2.2.1
  have hl : lv_has ls 3 [(0, .int (zI x)), (1, .int (zI y)), (2, .int (zI z))] := hl
  generalize hH : s.heap = H at hP ⊢
  have hS : va_S A s.heap H [] := by rw [← hH]; exact va_S.rf
  generalize hLo : ([] : List Loc) = locs at hS ⊢
  refine lv_iload_n hx hb dX3_needSquare_0 rfl (lv_at hl 0 rfl) ?_
  refine lv_iload_n hx hb dX3_needSquare_1 rfl (lv_at hl 1 rfl) ?_
  refine lv_iload_n hx hb dX3_needSquare_2 rfl (lv_at hl 2 rfl) ?_
  refine gCi F (gRunS (own := RX3) (bytes := cX3_isSquare) (n := 3) (As := [.int (zI x), .int (zI y), .int (zI z)]) (rest := []) F (c_X3_isSquare l G x y z (by first | assumption | omega) (by first | assumption | omega) (by first | assumption | omega) H.size) gX3_needSquare_X3_isSquare rfl rfl rfl rfl (by decide +kernel) rfl ⟨Nat.le_of_ble_eq_true rfl, Nat.le_of_ble_eq_true rfl⟩ hP hD (lit := []) (wt := []) (wc := []) (isC := []) rfl (by decide) rfl hl.1 (Nat.le_of_ble_eq_true rfl) dX3_needSquare_3 ⟨Nat.le_of_ble_eq_true rfl, Nat.le_of_ble_eq_true rfl⟩) hP hD hS (lit := []) (wt := []) (wc := []) (wr := []) (isC := []) (isR := []) rfl rfl (by decide) (by decide) (fun r3 u H locs hp3 hP hD hS => ?_)
  subst hp3
  have hP : va_P G.1 vwCl [] H := hP
  have hD : va_D A [] := hD
  refine gIfB_ne (P := ((z = 1 ∨ z = 2 ∨ z = 4 ∨ z = 8 ∨ z = 16) ∧ 0 ≤ x ∧ x < 16 ∧ 0 ≤ y ∧ y < 16 ∧ x % z = 0 ∧ y % z = 0)) (tgt := 19) hx hb dX3_needSquare_6 (by decide) (fun c6 => ?_) (fun c6 => ?_)
  · skip
    exact gRv F dX3_needSquare_19 () (trivial) hP hD hS (Nat.le_refl _) (Nat.le_refl _)
  exfalso; omega

set_option maxHeartbeats 4000000 in
set_option maxRecDepth 100000 in
theorem x_X3_needSquare (l : Launch) (G : gG) (x : Int) (y : Int) (z : Int) (hx : -2147483648 ≤ x ∧ x < 2147483648) (hy : -2147483648 ≤ y ∧ y < 2147483648) (hz : -2147483648 ≤ z ∧ z < 2147483648) (hcond : ¬((z = 1 ∨ z = 2 ∨ z = 4 ∨ z = 8 ∨ z = 16) ∧ 0 ≤ x ∧ x < 16 ∧ 0 ≤ y ∧ y < 16 ∧ x % z = 0 ∧ y % z = 0)) (hl9 : l.stackTraces = false) : gMx (S := Unit) l yX3_needSquare wsX3_needSquare { frames := 6, cells := 1, slots := 6, locals := 90 } G [.int (zI x), .int (zI y), .int (zI z)] [] gIA (fun u => True) (fun u => []) 1 6 := by
  refine gMetX_mk (cc := cX3_needSquare) (nL := 3) (ret := none) (XC := fun A => gXC (S := Unit) G A gIA (fun u => True) (fun u => [])) (by decide) rfl (Nat.le_of_ble_eq_true rfl) ?_
  intro p e s m args below meth c A F htb hZ ls hl hP hD hS
  have hx := F.1
  have hb := F.2.1
  have hts := F.2.2.2.2.2.2.1
  have hown : s.vm.findClass RX3 = some m.cls := F.2.2.2.2.2.1
  have hKK := F.2.2.2.2.2.2.2.2.1
  have hK := hKK.1
  have hin0 := F.2.2.2.2.2.2.2.1
  have hl : lv_has ls 3 [(0, .int (zI x)), (1, .int (zI y)), (2, .int (zI z))] := hl
  generalize hH : s.heap = H at hP ⊢
  have hS : va_S A s.heap H [] := by rw [← hH]; exact va_S.rf
  generalize hLo : ([] : List Loc) = locs at hS ⊢
  refine lv_iload_n hx hb dX3_needSquare_0 rfl (lv_at hl 0 rfl) ?_
  refine lv_iload_n hx hb dX3_needSquare_1 rfl (lv_at hl 1 rfl) ?_
  refine lv_iload_n hx hb dX3_needSquare_2 rfl (lv_at hl 2 rfl) ?_
  refine gCi F (gRunS (own := RX3) (bytes := cX3_isSquare) (n := 3) (As := [.int (zI x), .int (zI y), .int (zI z)]) (rest := []) F (c_X3_isSquare l G x y z (by first | assumption | omega) (by first | assumption | omega) (by first | assumption | omega) H.size) gX3_needSquare_X3_isSquare rfl rfl rfl rfl (by decide +kernel) rfl ⟨Nat.le_of_ble_eq_true rfl, Nat.le_of_ble_eq_true rfl⟩ hP hD (lit := []) (wt := []) (wc := []) (isC := []) rfl (by decide) rfl hl.1 (Nat.le_of_ble_eq_true rfl) dX3_needSquare_3 ⟨Nat.le_of_ble_eq_true rfl, Nat.le_of_ble_eq_true rfl⟩) hP hD hS (lit := []) (wt := []) (wc := []) (wr := []) (isC := []) (isR := []) rfl rfl (by decide) (by decide) (fun r3 u H locs hp3 hP hD hS => ?_)
  subst hp3
  have hP : va_P G.1 vwCl [] H := hP
  have hD : va_D A [] := hD
  refine gIfB_ne (P := ((z = 1 ∨ z = 2 ∨ z = 4 ∨ z = 8 ∨ z = 16) ∧ 0 ≤ x ∧ x < 16 ∧ 0 ≤ y ∧ y < 16 ∧ x % z = 0 ∧ y % z = 0)) (tgt := 19) hx hb dX3_needSquare_6 (by decide) (fun c6 => ?_) (fun c6 => ?_)
  · skip
    exfalso; omega
  exact gThrow (own := RX3) (cls := gIA) (text := "there is no such square") (names := ["java/lang/RuntimeException", "java/lang/Exception"]) (ik := 73) (is := 249) (ic := 77) F htb hZ hl9 rfl (by decide) (by decide) (by decide +kernel) (by decide +kernel) (by decide +kernel) (by decide +kernel) (by decide) (by decide +kernel) (by decide +kernel) dX3_needSquare_9 dX3_needSquare_12 dX3_needSquare_13 dX3_needSquare_15 dX3_needSquare_18 hl.1 (Nat.le_of_ble_eq_true rfl) (Nat.le_of_ble_eq_true rfl) (Nat.le_of_ble_eq_true rfl) (Nat.le_of_ble_eq_true rfl) () (trivial) hP hD hS (Nat.le_of_ble_eq_true rfl) (Nat.le_of_ble_eq_true rfl)

set_option maxHeartbeats 4000000 in
set_option maxRecDepth 100000 in
theorem c_X3_needLevel (l : Launch) (G : gG) (o : Int) (ho : -2147483648 ≤ o ∧ o < 2147483648) (hcond : 1 ≤ o ∧ o ≤ 10) : gMv (S := Unit) l yX3_needLevel wsX3_needLevel { frames := 0, cells := 0, slots := 0, locals := 0 } G [.int (zI o)] [] (fun (u : Unit) => True) (fun u => []) 0 0 := by
  refine gMet_mk (cc := cX3_needLevel) (nL := 1) (ret := none) (Qc := fun A => va_Qv (S := Unit) (fun (u : Unit) => True) (gB G A (fun u => [])) A) (by decide) rfl (Nat.le_of_ble_eq_true rfl) ?_
  intro p e s m args below meth c A F ls hl hP hD hS
  have hx := F.1
  have hb := F.2.1
  have hts := F.2.2.2.2.2.2.1
  have hown : s.vm.findClass RX3 = some m.cls := F.2.2.2.2.2.1
  have hKK := F.2.2.2.2.2.2.2.2.1
  have hK := hKK.1
  have hin0 := F.2.2.2.2.2.2.2.1
  have hl : lv_has ls 1 [(0, .int (zI o))] := hl
  generalize hH : s.heap = H at hP ⊢
  have hS : va_S A s.heap H [] := by rw [← hH]; exact va_S.rf
  generalize hLo : ([] : List Loc) = locs at hS ⊢
  refine lv_iload_n hx hb dX3_needLevel_0 rfl (lv_at hl 0 rfl) ?_
  refine lv_iconst (v := nI 1) hx hb dX3_needLevel_1 (by decide) ?_
  refine W.eq (g2 := F0 m 2 ls [.int (zI ((1 : Nat) : Int)), .int (zI o)]) (by simp only [zI_nat]) ?_
  refine gZcmp_lt (a := o) (b := ((1 : Nat) : Int)) (tgt := 11) hx hb dX3_needLevel_2 (by decide) (by omega) (by omega) (fun c2 => ?_) (fun c2 => ?_)
  · skip
    exfalso; omega
  refine lv_iload_n hx hb dX3_needLevel_5 rfl (lv_at hl 0 rfl) ?_
  refine lv_bipush (v := nI 10) hx hb dX3_needLevel_6 (by decide) ?_
  refine W.eq (g2 := F0 m 8 ls [.int (zI ((10 : Nat) : Int)), .int (zI o)]) (by simp only [zI_nat]) ?_
  refine gZcmp_le (a := o) (b := ((10 : Nat) : Int)) (tgt := 21) hx hb dX3_needLevel_8 (by decide) (by omega) (by omega) (fun c8 => ?_) (fun c8 => ?_)
  · skip
    exact gRv F dX3_needLevel_21 () (trivial) hP hD hS (Nat.le_refl _) (Nat.le_refl _)
  exfalso; omega

set_option maxHeartbeats 4000000 in
set_option maxRecDepth 100000 in
theorem x_X3_needLevel (l : Launch) (G : gG) (o : Int) (ho : -2147483648 ≤ o ∧ o < 2147483648) (hcond : ¬(1 ≤ o ∧ o ≤ 10)) (hl9 : l.stackTraces = false) : gMx (S := Unit) l yX3_needLevel wsX3_needLevel { frames := 6, cells := 1, slots := 6, locals := 90 } G [.int (zI o)] [] gIA (fun u => True) (fun u => []) 1 6 := by
  refine gMetX_mk (cc := cX3_needLevel) (nL := 1) (ret := none) (XC := fun A => gXC (S := Unit) G A gIA (fun u => True) (fun u => [])) (by decide) rfl (Nat.le_of_ble_eq_true rfl) ?_
  intro p e s m args below meth c A F htb hZ ls hl hP hD hS
  have hx := F.1
  have hb := F.2.1
  have hts := F.2.2.2.2.2.2.1
  have hown : s.vm.findClass RX3 = some m.cls := F.2.2.2.2.2.1
  have hKK := F.2.2.2.2.2.2.2.2.1
  have hK := hKK.1
  have hin0 := F.2.2.2.2.2.2.2.1
  have hl : lv_has ls 1 [(0, .int (zI o))] := hl
  generalize hH : s.heap = H at hP ⊢
  have hS : va_S A s.heap H [] := by rw [← hH]; exact va_S.rf
  generalize hLo : ([] : List Loc) = locs at hS ⊢
  refine lv_iload_n hx hb dX3_needLevel_0 rfl (lv_at hl 0 rfl) ?_
  refine lv_iconst (v := nI 1) hx hb dX3_needLevel_1 (by decide) ?_
  refine W.eq (g2 := F0 m 2 ls [.int (zI ((1 : Nat) : Int)), .int (zI o)]) (by simp only [zI_nat]) ?_
  refine gZcmp_lt (a := o) (b := ((1 : Nat) : Int)) (tgt := 11) hx hb dX3_needLevel_2 (by decide) (by omega) (by omega) (fun c2 => ?_) (fun c2 => ?_)
  · skip
    exact gThrow (own := RX3) (cls := gIA) (text := "level is out of range") (names := ["java/lang/RuntimeException", "java/lang/Exception"]) (ik := 73) (is := 251) (ic := 77) F htb hZ hl9 rfl (by decide) (by decide) (by decide +kernel) (by decide +kernel) (by decide +kernel) (by decide +kernel) (by decide) (by decide +kernel) (by decide +kernel) dX3_needLevel_11 dX3_needLevel_14 dX3_needLevel_15 dX3_needLevel_17 dX3_needLevel_20 hl.1 (Nat.le_of_ble_eq_true rfl) (Nat.le_of_ble_eq_true rfl) (Nat.le_of_ble_eq_true rfl) (Nat.le_of_ble_eq_true rfl) () (trivial) hP hD hS (Nat.le_of_ble_eq_true rfl) (Nat.le_of_ble_eq_true rfl)
  refine lv_iload_n hx hb dX3_needLevel_5 rfl (lv_at hl 0 rfl) ?_
  refine lv_bipush (v := nI 10) hx hb dX3_needLevel_6 (by decide) ?_
  refine W.eq (g2 := F0 m 8 ls [.int (zI ((10 : Nat) : Int)), .int (zI o)]) (by simp only [zI_nat]) ?_
  refine gZcmp_le (a := o) (b := ((10 : Nat) : Int)) (tgt := 21) hx hb dX3_needLevel_8 (by decide) (by omega) (by omega) (fun c8 => ?_) (fun c8 => ?_)
  · skip
    exfalso; omega
  exact gThrow (own := RX3) (cls := gIA) (text := "level is out of range") (names := ["java/lang/RuntimeException", "java/lang/Exception"]) (ik := 73) (is := 251) (ic := 77) F htb hZ hl9 rfl (by decide) (by decide) (by decide +kernel) (by decide +kernel) (by decide +kernel) (by decide +kernel) (by decide) (by decide +kernel) (by decide +kernel) dX3_needLevel_11 dX3_needLevel_14 dX3_needLevel_15 dX3_needLevel_17 dX3_needLevel_20 hl.1 (Nat.le_of_ble_eq_true rfl) (Nat.le_of_ble_eq_true rfl) (Nat.le_of_ble_eq_true rfl) (Nat.le_of_ble_eq_true rfl) () (trivial) hP hD hS (Nat.le_of_ble_eq_true rfl) (Nat.le_of_ble_eq_true rfl)

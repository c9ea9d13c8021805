def sBelow (ow he : Nat → Nat) (o lv : Nat) : Nat → Nat
  | 0 => 0
  | k + 1 => sBelow ow he o lv k + (if ow k = o ∧ he k < lv then 1 else 0)
theorem sBelow_le (ow he : Nat → Nat) (o lv : Nat) : ∀ k, sBelow ow he o lv k ≤ k
  | 0 => Nat.le_refl _
  | k + 1 => by have := sBelow_le ow he o lv k; simp only [sBelow]; split <;> omega
def sSumH (he : Nat → Nat) : Nat → Nat
  | 0 => 0
  | k + 1 => sSumH he k + he k

set_option maxHeartbeats 4000000 in
set_option maxRecDepth 100000 in
theorem c_X1_cellsBelow (l : Launch) (G : gG) (h : Nat) (a1 : Nat) (a2 : Nat) (a3 : Nat) (ow : Nat → Nat) (he : Nat → Nat) (co : Nat → Nat) (pr : Nat) (tx : Nat) (sa : Nat) (fl : Nat) (lo : Nat) (o : Nat) (lv : Nat) (hw : ∀ k, ow k < 8) (hh : ∀ k, he k < 10) (ho : o < 2 ^ 31) (hv : lv < 2 ^ 31) : gMi (S := Unit) l yX1_cellsBelow wsX1_cellsBelow { frames := 0, cells := 0, slots := 0, locals := 0 } G [.ref h, .int (nI o), .int (nI lv)] [(h, .inr (1, [.ref a1, .ref a2, .ref a3, .int (nI pr), .int (nI tx), .int (nI sa), .int (nI fl), .int (nI lo)])), (a1, .inl (G.2.1, 256, .inl (gn ow))), (a2, .inl (G.2.1, 256, .inl (gn he))), (a3, .inl (G.2.1, 8, .inl (gn co)))] (fun (r : Int32) (u : Unit) => (r = nI (sBelow ow he o lv 256))) (fun u => [(h, .inr (1, [.ref a1, .ref a2, .ref a3, .int (nI pr), .int (nI tx), .int (nI sa), .int (nI fl), .int (nI lo)])), (a1, .inl (G.2.1, 256, .inl (gn ow))), (a2, .inl (G.2.1, 256, .inl (gn he))), (a3, .inl (G.2.1, 8, .inl (gn co)))]) 0 0 := by
  refine gMet_mk (cc := cX1_cellsBelow) (nL := 5) (ret := (some .int)) (Qc := fun A => va_Qi (S := Unit) (fun (r : Int32) (u : Unit) => (r = nI (sBelow ow he o lv 256))) (gB G A (fun u => [(h, .inr (1, [.ref a1, .ref a2, .ref a3, .int (nI pr), .int (nI tx), .int (nI sa), .int (nI fl), .int (nI lo)])), (a1, .inl (G.2.1, 256, .inl (gn ow))), (a2, .inl (G.2.1, 256, .inl (gn he))), (a3, .inl (G.2.1, 8, .inl (gn co)))])) A) (by decide) rfl (Nat.le_of_ble_eq_true rfl) ?_
  intro p e s m args below meth c A F ls hl hP hD hS
  have hx := F.1
  have hb := F.2.1
  have hts := F.2.2.2.2.2.2.1
  have hown : s.vm.findClass RX1 = some m.cls := F.2.2.2.2.2.1
  have hKK := F.2.2.2.2.2.2.2.2.1
  have hK := hKK.1
  have hin0 := F.2.2.2.2.2.2.2.1
  have hi1 : ∀ w ∈ u_ws RX1 TX1 8, w ∈ wsX1_cellsBelow := by decide +kernel
  have hl : lv_has ls 5 [(0, .ref h), (1, .int (nI o)), (2, .int (nI lv))] := hl
  generalize hH : s.heap = H at hP ⊢
  have hS : va_S A s.heap H [] := by rw [← hH]; exact va_S.rf
  generalize hLo : ([] : List Loc) = locs at hS ⊢
  refine lv_iconst (v := nI 0) hx hb dX1_cellsBelow_0 (by decide) ?_
  refine lv_istore_n (lv' := [(3, .int (nI 0)), (0, .ref h), (1, .int (nI o)), (2, .int (nI lv))]) hx hb dX1_cellsBelow_1 rfl hl (by decide) rfl (fun ls hl => ?_)
  refine lv_iconst (v := nI 0) hx hb dX1_cellsBelow_2 (by decide) ?_
  refine lv_istore (lv' := [(4, .int (nI 0)), (3, .int (nI 0)), (0, .ref h), (1, .int (nI o)), (2, .int (nI lv))]) hx hb dX1_cellsBelow_3 hl (by decide) rfl (fun ls hl => ?_)
  have L5 : ∀ (fuel : Nat) (k : Nat), 256 - k < fuel → (k ≤ 256) → ∀ (H : Heap) (locs : List Loc), va_P G.1 vwCl [(h, .inr (1, [.ref a1, .ref a2, .ref a3, .int (nI pr), .int (nI tx), .int (nI sa), .int (nI fl), .int (nI lo)])), (a1, .inl (G.2.1, 256, .inl (gn ow))), (a2, .inl (G.2.1, 256, .inl (gn he))), (a3, .inl (G.2.1, 8, .inl (gn co)))] H → va_D A [(h, .inr (1, [.ref a1, .ref a2, .ref a3, .int (nI pr), .int (nI tx), .int (nI sa), .int (nI fl), .int (nI lo)])), (a1, .inl (G.2.1, 256, .inl (gn ow))), (a2, .inl (G.2.1, 256, .inl (gn he))), (a3, .inl (G.2.1, 8, .inl (gn co)))] → va_S A s.heap H locs → ∀ (ls : Array Slot), lv_has ls 5 [(4, .int (nI k)), (3, .int (nI (sBelow ow he o lv k))), (0, .ref h), (1, .int (nI o)), (2, .int (nI lv))] → W p l e ({ frames := 0, cells := 0, slots := 0, locals := 0 } : Room) s m args below meth c H locs 0 0 (MQ below (va_Qi (S := Unit) (fun (r : Int32) (u : Unit) => (r = nI (sBelow ow he o lv 256))) (gB G A (fun u => [(h, .inr (1, [.ref a1, .ref a2, .ref a3, .int (nI pr), .int (nI tx), .int (nI sa), .int (nI fl), .int (nI lo)])), (a1, .inl (G.2.1, 256, .inl (gn ow))), (a2, .inl (G.2.1, 256, .inl (gn he))), (a3, .inl (G.2.1, 8, .inl (gn co)))])) A) args s 0 0 A) (F0 m 5 ls []) := by
    intro fuel
    induction fuel with
    | zero => intro k hme; exact absurd hme (Nat.not_lt_zero _)
    | succ fuel ih5 =>
      intro k hme hk H locs hP hD hS ls hl
      refine lv_iload hx hb dX1_cellsBelow_5 (lv_at hl 0 rfl) ?_
      refine lv_sipush (v := nI 256) hx hb dX1_cellsBelow_7 (by decide) ?_
      refine gIcmp_ge (a := k) (b := 256) (tgt := 44) hx hb dX1_cellsBelow_10 (by decide) (by omega) (by omega) (fun c10 => ?_) (fun c10 => ?_)
      · skip
        refine lv_iload_n hx hb dX1_cellsBelow_44 rfl (lv_at hl 1 rfl) ?_
        exact gRi F dX1_cellsBelow_45 (rfl) () (by rw [show k = 256 by omega]) hP hD hS (Nat.le_refl _) (Nat.le_refl _)
      refine lv_aload_n hx hb dX1_cellsBelow_13 rfl (lv_at hl 2 rfl) ?_
      refine va_get (D := G.1) (ci := 1) (v := .ref a1) (C := RX1) (T := TX1) (N := 8) hx hb hts hi1 hown hK hP 0 rfl rfl 0 (by decide) (hts (.fieldLink RX1 9 "LandQuarters$Land" "owners" "[I") (by decide +kernel)) (fun _ h9 => h9) rfl dX1_cellsBelow_14 ?_
      refine lv_iload hx hb dX1_cellsBelow_17 (lv_at hl 0 rfl) ?_
      refine gNald (k := k) hx hb hK hP 1 0 rfl rfl (by omega) (by decide) dX1_cellsBelow_19 ?_
      refine lv_iload_n hx hb dX1_cellsBelow_20 rfl (lv_at hl 3 rfl) ?_
      refine gIcmp_ne (a := ow k) (b := o) (tgt := 38) hx hb dX1_cellsBelow_21 (by decide) (by have := hw k; omega) (by omega) (fun c21 => ?_) (fun c21 => ?_)
      · skip
        refine lv_iinc (v := nI (k + 1)) (lv' := [(4, .int (nI (k + 1))), (3, .int (nI (sBelow ow he o lv k))), (0, .ref h), (1, .int (nI o)), (2, .int (nI lv))]) hx hb dX1_cellsBelow_38 hl (k := 0) rfl (gInc_p _ rfl) (by decide) rfl (fun ls hl => ?_)
        refine lv_goto (tgt := 5) hx hb dX1_cellsBelow_41 (by decide) ?_
        have hl : lv_has ls 5 [(4, .int (nI (k + 1))), (3, .int (nI (sBelow ow he o lv k))), (0, .ref h), (1, .int (nI o)), (2, .int (nI lv))] := lv_sub hl [0, 1, 2, 3, 4] rfl
        have hle : (.int (nI (sBelow ow he o lv k)) : Value) = .int (nI (sBelow ow he o lv (k + 1))) := by first | rfl | (congr 2; (try simp only [sBelow]); (repeat' split) <;> omega)
        rw [hle] at hl
        have hy_1 : (k + 1) ≤ 256 := by omega
        exact ih5 (k + 1) (by omega) hy_1 H locs hP hD hS ls hl
      refine lv_aload_n hx hb dX1_cellsBelow_24 rfl (lv_at hl 2 rfl) ?_
      refine va_get (D := G.1) (ci := 1) (v := .ref a2) (C := RX1) (T := TX1) (N := 8) hx hb hts hi1 hown hK hP 0 rfl rfl 1 (by decide) (hts (.fieldLink RX1 15 "LandQuarters$Land" "heights" "[I") (by decide +kernel)) (fun _ h9 => h9) rfl dX1_cellsBelow_25 ?_
      refine lv_iload hx hb dX1_cellsBelow_28 (lv_at hl 0 rfl) ?_
      refine gNald (k := k) hx hb hK hP 2 0 rfl rfl (by omega) (by decide) dX1_cellsBelow_30 ?_
      refine lv_iload_n hx hb dX1_cellsBelow_31 rfl (lv_at hl 4 rfl) ?_
      refine gIcmp_ge (a := he k) (b := lv) (tgt := 38) hx hb dX1_cellsBelow_32 (by decide) (by have := hh k; omega) (by omega) (fun c32 => ?_) (fun c32 => ?_)
      · skip
        refine lv_iinc (v := nI (k + 1)) (lv' := [(4, .int (nI (k + 1))), (3, .int (nI (sBelow ow he o lv k))), (0, .ref h), (1, .int (nI o)), (2, .int (nI lv))]) hx hb dX1_cellsBelow_38 hl (k := 0) rfl (gInc_p _ rfl) (by decide) rfl (fun ls hl => ?_)
        refine lv_goto (tgt := 5) hx hb dX1_cellsBelow_41 (by decide) ?_
        have hl : lv_has ls 5 [(4, .int (nI (k + 1))), (3, .int (nI (sBelow ow he o lv k))), (0, .ref h), (1, .int (nI o)), (2, .int (nI lv))] := lv_sub hl [0, 1, 2, 3, 4] rfl
        have hle : (.int (nI (sBelow ow he o lv k)) : Value) = .int (nI (sBelow ow he o lv (k + 1))) := by first | rfl | (congr 2; (try simp only [sBelow]); (repeat' split) <;> omega)
        rw [hle] at hl
        have hy_2 : (k + 1) ≤ 256 := by omega
        exact ih5 (k + 1) (by omega) hy_2 H locs hP hD hS ls hl
      refine lv_iinc (v := nI (sBelow ow he o lv k + 1)) (lv' := [(3, .int (nI (sBelow ow he o lv k + 1))), (4, .int (nI k)), (0, .ref h), (1, .int (nI o)), (2, .int (nI lv))]) hx hb dX1_cellsBelow_35 hl (k := 1) rfl (gInc_p _ rfl) (by decide) rfl (fun ls hl => ?_)
      refine lv_iinc (v := nI (k + 1)) (lv' := [(4, .int (nI (k + 1))), (3, .int (nI (sBelow ow he o lv k + 1))), (0, .ref h), (1, .int (nI o)), (2, .int (nI lv))]) hx hb dX1_cellsBelow_38 hl (k := 1) rfl (gInc_p _ rfl) (by decide) rfl (fun ls hl => ?_)
      refine lv_goto (tgt := 5) hx hb dX1_cellsBelow_41 (by decide) ?_
      have hl : lv_has ls 5 [(4, .int (nI (k + 1))), (3, .int (nI (sBelow ow he o lv k + 1))), (0, .ref h), (1, .int (nI o)), (2, .int (nI lv))] := lv_sub hl [0, 1, 2, 3, 4] rfl
      have hle : (.int (nI (sBelow ow he o lv k + 1)) : Value) = .int (nI (sBelow ow he o lv (k + 1))) := by first | rfl | (congr 2; (try simp only [sBelow]); (repeat' split) <;> omega)
      rw [hle] at hl
      have hy_3 : (k + 1) ≤ 256 := by omega
      exact ih5 (k + 1) (by omega) hy_3 H locs hP hD hS ls hl
  have hl : lv_has ls 5 [(4, .int (nI 0)), (3, .int (nI 0)), (0, .ref h), (1, .int (nI o)), (2, .int (nI lv))] := lv_sub hl [0, 1, 2, 3, 4] rfl
  have hle : (.int (nI 0) : Value) = .int (nI (sBelow ow he o lv 0)) := by first | rfl | (congr 2; (try simp only [sBelow]); (repeat' split) <;> omega)
  rw [hle] at hl
  have hy_4 : 0 ≤ 256 := by omega
  exact L5 _ 0 (Nat.lt_succ_self _) hy_4 H locs hP hD hS ls hl

set_option maxHeartbeats 4000000 in
set_option maxRecDepth 100000 in
theorem c_X1_sumOfHeights (l : Launch) (G : gG) (h : Nat) (a1 : Nat) (a2 : Nat) (a3 : Nat) (ow : Nat → Nat) (he : Nat → Nat) (co : Nat → Nat) (pr : Nat) (tx : Nat) (sa : Nat) (fl : Nat) (lo : Nat) : gMi (S := Unit) l yX1_sumOfHeights wsX1_sumOfHeights { frames := 0, cells := 0, slots := 0, locals := 0 } G [.ref h] [(h, .inr (1, [.ref a1, .ref a2, .ref a3, .int (nI pr), .int (nI tx), .int (nI sa), .int (nI fl), .int (nI lo)])), (a1, .inl (G.2.1, 256, .inl (gn ow))), (a2, .inl (G.2.1, 256, .inl (gn he))), (a3, .inl (G.2.1, 8, .inl (gn co)))] (fun (r : Int32) (u : Unit) => (r = nI (sSumH he 256))) (fun u => [(h, .inr (1, [.ref a1, .ref a2, .ref a3, .int (nI pr), .int (nI tx), .int (nI sa), .int (nI fl), .int (nI lo)])), (a1, .inl (G.2.1, 256, .inl (gn ow))), (a2, .inl (G.2.1, 256, .inl (gn he))), (a3, .inl (G.2.1, 8, .inl (gn co)))]) 0 0 := by
  refine gMet_mk (cc := cX1_sumOfHeights) (nL := 3) (ret := (some .int)) (Qc := fun A => va_Qi (S := Unit) (fun (r : Int32) (u : Unit) => (r = nI (sSumH he 256))) (gB G A (fun u => [(h, .inr (1, [.ref a1, .ref a2, .ref a3, .int (nI pr), .int (nI tx), .int (nI sa), .int (nI fl), .int (nI lo)])), (a1, .inl (G.2.1, 256, .inl (gn ow))), (a2, .inl (G.2.1, 256, .inl (gn he))), (a3, .inl (G.2.1, 8, .inl (gn co)))])) A) (by decide) rfl (Nat.le_of_ble_eq_true rfl) ?_
  intro p e s m args below meth c A F ls hl hP hD hS
  have hx := F.1
  have hb := F.2.1
  have hts := F.2.2.2.2.2.2.1
  have hown : s.vm.findClass RX1 = some m.cls := F.2.2.2.2.2.1
  have hKK := F.2.2.2.2.2.2.2.2.1
  have hK := hKK.1
  have hin0 := F.2.2.2.2.2.2.2.1
  have hi1 : ∀ w ∈ u_ws RX1 TX1 8, w ∈ wsX1_sumOfHeights := by decide +kernel
  have hl : lv_has ls 3 [(0, .ref h)] := hl
  generalize hH : s.heap = H at hP ⊢
  have hS : va_S A s.heap H [] := by rw [← hH]; exact va_S.rf
  generalize hLo : ([] : List Loc) = locs at hS ⊢
  refine lv_iconst (v := nI 0) hx hb dX1_sumOfHeights_0 (by decide) ?_
  refine lv_istore_n (lv' := [(1, .int (nI 0)), (0, .ref h)]) hx hb dX1_sumOfHeights_1 rfl hl (by decide) rfl (fun ls hl => ?_)
  refine lv_iconst (v := nI 0) hx hb dX1_sumOfHeights_2 (by decide) ?_
  refine lv_istore_n (lv' := [(2, .int (nI 0)), (1, .int (nI 0)), (0, .ref h)]) hx hb dX1_sumOfHeights_3 rfl hl (by decide) rfl (fun ls hl => ?_)
  have L4 : ∀ (fuel : Nat) (k : Nat), 256 - k < fuel → (k ≤ 256) → ∀ (H : Heap) (locs : List Loc), va_P G.1 vwCl [(h, .inr (1, [.ref a1, .ref a2, .ref a3, .int (nI pr), .int (nI tx), .int (nI sa), .int (nI fl), .int (nI lo)])), (a1, .inl (G.2.1, 256, .inl (gn ow))), (a2, .inl (G.2.1, 256, .inl (gn he))), (a3, .inl (G.2.1, 8, .inl (gn co)))] H → va_D A [(h, .inr (1, [.ref a1, .ref a2, .ref a3, .int (nI pr), .int (nI tx), .int (nI sa), .int (nI fl), .int (nI lo)])), (a1, .inl (G.2.1, 256, .inl (gn ow))), (a2, .inl (G.2.1, 256, .inl (gn he))), (a3, .inl (G.2.1, 8, .inl (gn co)))] → va_S A s.heap H locs → ∀ (ls : Array Slot), lv_has ls 3 [(2, .int (nI k)), (1, .int (nI (sSumH he k))), (0, .ref h)] → W p l e ({ frames := 0, cells := 0, slots := 0, locals := 0 } : Room) s m args below meth c H locs 0 0 (MQ below (va_Qi (S := Unit) (fun (r : Int32) (u : Unit) => (r = nI (sSumH he 256))) (gB G A (fun u => [(h, .inr (1, [.ref a1, .ref a2, .ref a3, .int (nI pr), .int (nI tx), .int (nI sa), .int (nI fl), .int (nI lo)])), (a1, .inl (G.2.1, 256, .inl (gn ow))), (a2, .inl (G.2.1, 256, .inl (gn he))), (a3, .inl (G.2.1, 8, .inl (gn co)))])) A) args s 0 0 A) (F0 m 4 ls []) := by
    intro fuel
    induction fuel with
    | zero => intro k hme; exact absurd hme (Nat.not_lt_zero _)
    | succ fuel ih4 =>
      intro k hme hk H locs hP hD hS ls hl
      refine lv_iload_n hx hb dX1_sumOfHeights_4 rfl (lv_at hl 0 rfl) ?_
      refine lv_sipush (v := nI 256) hx hb dX1_sumOfHeights_5 (by decide) ?_
      refine gIcmp_ge (a := k) (b := 256) (tgt := 26) hx hb dX1_sumOfHeights_8 (by decide) (by omega) (by omega) (fun c8 => ?_) (fun c8 => ?_)
      · skip
        refine lv_iload_n hx hb dX1_sumOfHeights_26 rfl (lv_at hl 1 rfl) ?_
        exact gRi F dX1_sumOfHeights_27 (rfl) () (by rw [show k = 256 by omega]) hP hD hS (Nat.le_refl _) (Nat.le_refl _)
      refine lv_iload_n hx hb dX1_sumOfHeights_11 rfl (lv_at hl 1 rfl) ?_
      refine lv_aload_n hx hb dX1_sumOfHeights_12 rfl (lv_at hl 2 rfl) ?_
      refine va_get (D := G.1) (ci := 1) (v := .ref a2) (C := RX1) (T := TX1) (N := 8) hx hb hts hi1 hown hK hP 0 rfl rfl 1 (by decide) (hts (.fieldLink RX1 15 "LandQuarters$Land" "heights" "[I") (by decide +kernel)) (fun _ h9 => h9) rfl dX1_sumOfHeights_13 ?_
      refine lv_iload_n hx hb dX1_sumOfHeights_16 rfl (lv_at hl 0 rfl) ?_
      refine gNald (k := k) hx hb hK hP 2 0 rfl rfl (by omega) (by decide) dX1_sumOfHeights_17 ?_
      refine gIadd (a := sSumH he k) (b := he k) hx hb dX1_sumOfHeights_18 ?_
      refine lv_istore_n (lv' := [(1, .int (nI (sSumH he k + (he k)))), (2, .int (nI k)), (0, .ref h)]) hx hb dX1_sumOfHeights_19 rfl hl (by decide) rfl (fun ls hl => ?_)
      refine lv_iinc (v := nI (k + 1)) (lv' := [(2, .int (nI (k + 1))), (1, .int (nI (sSumH he k + (he k)))), (0, .ref h)]) hx hb dX1_sumOfHeights_20 hl (k := 1) rfl (gInc_p _ rfl) (by decide) rfl (fun ls hl => ?_)
      refine lv_goto (tgt := 4) hx hb dX1_sumOfHeights_23 (by decide) ?_
      have hl : lv_has ls 3 [(2, .int (nI (k + 1))), (1, .int (nI (sSumH he k + (he k)))), (0, .ref h)] := lv_sub hl [0, 1, 2] rfl
      have hle : (.int (nI (sSumH he k + (he k))) : Value) = .int (nI (sSumH he (k + 1))) := by first | rfl | (congr 2; (try simp only [sSumH]); (repeat' split) <;> omega)
      rw [hle] at hl
      have hy_1 : (k + 1) ≤ 256 := by omega
      exact ih4 (k + 1) (by omega) hy_1 H locs hP hD hS ls hl
  have hl : lv_has ls 3 [(2, .int (nI 0)), (1, .int (nI 0)), (0, .ref h)] := lv_sub hl [0, 1, 2] rfl
  have hle : (.int (nI 0) : Value) = .int (nI (sSumH he 0)) := by first | rfl | (congr 2; (try simp only [sSumH]); (repeat' split) <;> omega)
  rw [hle] at hl
  have hy_2 : 0 ≤ 256 := by omega
  exact L4 _ 0 (Nat.lt_succ_self _) hy_2 H locs hP hD hS ls hl
